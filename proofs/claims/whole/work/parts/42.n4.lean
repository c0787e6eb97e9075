theorem nI_slt {a b : Nat} (h : nI a < nI b) (hb : a < 2 ^ 31) : a < b := Nat.lt_of_not_le (fun z => absurd h (Int32.not_lt.mpr (nI_le z hb)))
def mLeF (M : aM) (r : Nat) (p : Int32) (s : Nat) (j : Nat) (a : Int32 × Int32 × Bool × Nat) : Int32 × Int32 × Bool × Nat := mLeastT p (mA M 12 r) (mTru M r s (mE M 15 r + j)) a
theorem mLeastS_e (M : aM) (r : Nat) (p : Int32) (s m : Nat) : mLeastS M r p s m = (mIter (mLeF M r p s) (mN M 1 + 1 - mE M 15 r) ((0 : Int32), (0 : Int32), false, m)).2.2.2 := rfl

set_option maxHeartbeats 4000000 in
set_option maxRecDepth 100000 in
theorem least_in {b : Bool} {E : awE} {S : awS} {M : aM} {Q : Option Value → awS → Nat → Nat → Prop} (hm : mOk S) {p : Int32} {r s m0 : Nat} (hI : mI M) (hr : r < 16) (hs : s < 16) (KK : ∀ mm : Nat, mm = mLeastS M r p s m0 → ∀ lv : List (Nat × Value), [(4, Value.int (nI s)), (3, .int (nI mm)), (0, .ref (nm 13 0)), (1, .int (nI r)), (2, .int p)].map (fun q => lk lv q.1) = [(4, Value.int (nI s)), (3, .int (nI mm)), (0, .ref (nm 13 0)), (1, .int (nI r)), (2, .int p)].map (fun q => some q.2) → awX b E m_X12_least 175 lv [] (putM S M) 0 0 Q) : awX b E m_X12_least 58 [(8, .int (nI (mE M 15 r))), (7, .int 0), (6, .int 0), (5, .int 0), (4, .int (nI s)), (3, .int (nI m0)), (0, .ref (nm 13 0)), (1, .int (nI r)), (2, .int p)] [] (putM S M) 0 0 Q := by
  have ec : mS M 1 = nI (mN M 1) := mS_nI hI (k := 1) (b := 400) (by decide)
  have ecb : mN M 1 ≤ 400 := mS_b hI (by decide)
  have erc := hI.A (k := 15) (n := 16) (b := 402) (by decide) (j := r) hr
  have IN : ∀ (m j : Nat) (y no : Int32) (la : Bool) (mm : Nat), j + m = mN M 1 + 1 - mE M 15 r → mIter (mLeF M r p s) j ((0 : Int32), (0 : Int32), false, m0) = (y, no, la, mm) → awX b E m_X12_least 58 [(8, .int (nI (mE M 15 r + j))), (7, .int (if la then 1 else 0)), (6, .int no), (5, .int y), (4, .int (nI s)), (3, .int (nI mm)), (0, .ref (nm 13 0)), (1, .int (nI r)), (2, .int p)] [] (putM S M) 0 0 Q := by
    intro m
    induction m with
    | zero =>
      intro j y no la mm hJ ha
      have hJ0 : j = mN M 1 + 1 - mE M 15 r := hJ
      cases la with
      | false =>
        show awX b E m_X12_least 58 [(8, .int (nI (mE M 15 r + j))), (7, .int 0), (6, .int no), (5, .int y), (4, .int (nI s)), (3, .int (nI mm)), (0, .ref (nm 13 0)), (1, .int (nI r)), (2, .int p)] [] (putM S M) 0 0 Q
        refine ax_iload dX12_least_58 rfl ?_
        refine ax_aload_n (i := 0) dX12_least_60 rfl rfl rfl ?_
        refine ax_mS dX12_least_61 fl_X12_262 rfl ?_
        refine ax_icmp_gt (tgt := 175) dX12_least_64 (by decide) (fun c_64 => ?_) (fun c_64 => ?_)
        · exact KK mm (by rw [mLeastS_e, ← hJ0, ha]) _ rfl
        · exact absurd (show mS M 1 < nI (mE M 15 r + j) by rw [ec]; exact nI_lt (by omega) (by omega)) c_64
      | true =>
        show awX b E m_X12_least 58 [(8, .int (nI (mE M 15 r + j))), (7, .int 1), (6, .int no), (5, .int y), (4, .int (nI s)), (3, .int (nI mm)), (0, .ref (nm 13 0)), (1, .int (nI r)), (2, .int p)] [] (putM S M) 0 0 Q
        refine ax_iload dX12_least_58 rfl ?_
        refine ax_aload_n (i := 0) dX12_least_60 rfl rfl rfl ?_
        refine ax_mS dX12_least_61 fl_X12_262 rfl ?_
        refine ax_icmp_gt (tgt := 175) dX12_least_64 (by decide) (fun c_64 => ?_) (fun c_64 => ?_)
        · exact KK mm (by rw [mLeastS_e, ← hJ0, ha]) _ rfl
        · exact absurd (show mS M 1 < nI (mE M 15 r + j) by rw [ec]; exact nI_lt (by omega) (by omega)) c_64
    | succ m ih =>
      intro j y no la mm hJ ha
      cases la with
      | false =>
        show awX b E m_X12_least 58 [(8, .int (nI (mE M 15 r + j))), (7, .int 0), (6, .int no), (5, .int y), (4, .int (nI s)), (3, .int (nI mm)), (0, .ref (nm 13 0)), (1, .int (nI r)), (2, .int p)] [] (putM S M) 0 0 Q
        refine ax_iload dX12_least_58 rfl ?_
        refine ax_aload_n (i := 0) dX12_least_60 rfl rfl rfl ?_
        refine ax_mS dX12_least_61 fl_X12_262 rfl ?_
        refine ax_icmp_gt (tgt := 175) dX12_least_64 (by decide) (fun c_64 => ?_) (fun c_64 => ?_)
        · exact absurd (show nI (mN M 1) < nI (mE M 15 r + j) by rw [← ec]; exact c_64) (Int32.not_lt.mpr (nI_le (by omega) (by omega)))
        · refine ax_aload_n (i := 0) dX12_least_67 rfl rfl rfl ?_
          refine ax_iload_n (i := 1) dX12_least_68 rfl rfl ?_
          refine ax_iload dX12_least_69 rfl ?_
          refine ax_iload dX12_least_71 rfl ?_
          refine ax_invV (c := 13) (n := 3) (As := [_, _, _]) dX12_least_73 cb_X12_truthAt cv_X12_317.1 cv_X12_317.2.1 cv_X12_317.2.2 rfl (by decide) rfl ⟨Nat.le_of_ble_eq_true rfl, Nat.le_of_ble_eq_true rfl⟩ (Nat.le_of_ble_eq_true rfl) rfl (t_truthAt hm (by omega) hs (by omega) ?_)
          refine ax_istore (lv' := [(9, _), (8, _), (7, _), (6, _), (5, _), (4, _), (3, _), (0, _), (1, _), (2, _)]) dX12_least_76 (by decide) rfl ?_
          generalize hv : mTru M r s (mE M 15 r + j) = v
          refine ax_iload dX12_least_78 rfl ?_
          refine ax_iconst (v := 1) dX12_least_80 (by decide) ?_
          refine ax_icmp_ne (tgt := 91) dX12_least_81 (by decide) (fun c_81 => ?_) (fun c_81 => ?_)
          · refine ax_iload dX12_least_91 rfl ?_
            refine ax_if_ne (tgt := 100) dX12_least_93 (by decide) (fun c_93 => ?_) (fun c_93 => ?_)
            · refine ax_iload dX12_least_100 rfl ?_
              refine ax_istore (lv' := [(5, _), (9, _), (8, _), (7, _), (6, _), (4, _), (3, _), (0, _), (1, _), (2, _)]) dX12_least_102 (by decide) rfl ?_
              refine ax_iload dX12_least_104 rfl ?_
              refine ax_if_ne (tgt := 116) dX12_least_106 (by decide) (fun c_106 => ?_) (fun c_106 => ?_)
              · refine ax_iload dX12_least_116 rfl ?_
                refine ax_iconst (v := 1) dX12_least_118 (by decide) ?_
                refine ax_icmp_ne (tgt := 126) dX12_least_119 (by decide) (fun c_119 => ?_) (fun c_119 => ?_)
                · refine ax_iload dX12_least_126 rfl ?_
                  refine ax_istore (lv' := [(6, _), (5, _), (9, _), (8, _), (7, _), (4, _), (3, _), (0, _), (1, _), (2, _)]) dX12_least_128 (by decide) rfl ?_
                  refine ax_iload dX12_least_130 rfl ?_
                  refine ax_if_ne (tgt := 150) dX12_least_132 (by decide) (fun z => absurd z (by decide)) (fun _ => ?_)
                  refine ax_iload dX12_least_135 rfl ?_
                  refine ax_iload_n (i := 2) dX12_least_137 rfl rfl ?_
                  refine ax_icmp_lt (tgt := 150) dX12_least_138 (by decide) (fun c_138 => ?_) (fun c_138 => ?_)
                  · refine ax_iload dX12_least_150 rfl ?_
                    refine ax_if_eq (tgt := 169) dX12_least_152 (by decide) (fun _ => ?_) (fun z => absurd (by decide) z)
                    refine ax_iinc (v := _ + 1) (lv' := [(8, _), (6, _), (5, _), (9, _), (7, _), (4, _), (3, _), (0, _), (1, _), (2, _)]) dX12_least_169 rfl rfl (by decide) rfl ?_
                    have hst : mLeastT p (mA M 12 r) v (y, no, false, mm) = (y, no, false, mm) := by unfold mLeastT; grind
                    refine ax_goto (tgt := 58) dX12_least_172 (by decide) ?_
                    rw [nI_1]
                    exact ax_loc rfl (ih (j + 1) (y) (no) false mm (by omega) (by show mLeF M r p s j (mIter (mLeF M r p s) j _) = _; rw [ha]; exact (congrArg (fun w => mLeastT p (mA M 12 r) w (y, no, false, mm)) hv).trans hst))
                  · refine ax_iconst (v := 1) dX12_least_141 (by decide) ?_
                    refine ax_istore (lv' := [(7, _), (6, _), (5, _), (9, _), (8, _), (4, _), (3, _), (0, _), (1, _), (2, _)]) dX12_least_142 (by decide) rfl ?_
                    refine ax_iinc (v := _ + 1) (lv' := [(3, _), (7, _), (6, _), (5, _), (9, _), (8, _), (4, _), (0, _), (1, _), (2, _)]) dX12_least_144 rfl rfl (by decide) rfl ?_
                    refine ax_goto (tgt := 169) dX12_least_147 (by decide) ?_
                    refine ax_iinc (v := _ + 1) (lv' := [(8, _), (3, _), (7, _), (6, _), (5, _), (9, _), (4, _), (0, _), (1, _), (2, _)]) dX12_least_169 rfl rfl (by decide) rfl ?_
                    have hst : mLeastT p (mA M 12 r) v (y, no, false, mm) = (y, no, true, (mm + 1)) := by unfold mLeastT; grind
                    refine ax_goto (tgt := 58) dX12_least_172 (by decide) ?_
                    rw [nI_1, nI_1]
                    exact ax_loc rfl (ih (j + 1) (y) (no) true (mm + 1) (by omega) (by show mLeF M r p s j (mIter (mLeF M r p s) j _) = _; rw [ha]; exact (congrArg (fun w => mLeastT p (mA M 12 r) w (y, no, false, mm)) hv).trans hst))
                · refine ax_iconst (v := 0) dX12_least_122 (by decide) ?_
                  refine ax_goto (tgt := 128) dX12_least_123 (by decide) ?_
                  refine ax_istore (lv' := [(6, _), (5, _), (9, _), (8, _), (7, _), (4, _), (3, _), (0, _), (1, _), (2, _)]) dX12_least_128 (by decide) rfl ?_
                  refine ax_iload dX12_least_130 rfl ?_
                  refine ax_if_ne (tgt := 150) dX12_least_132 (by decide) (fun z => absurd z (by decide)) (fun _ => ?_)
                  refine ax_iload dX12_least_135 rfl ?_
                  refine ax_iload_n (i := 2) dX12_least_137 rfl rfl ?_
                  refine ax_icmp_lt (tgt := 150) dX12_least_138 (by decide) (fun c_138 => ?_) (fun c_138 => ?_)
                  · refine ax_iload dX12_least_150 rfl ?_
                    refine ax_if_eq (tgt := 169) dX12_least_152 (by decide) (fun _ => ?_) (fun z => absurd (by decide) z)
                    refine ax_iinc (v := _ + 1) (lv' := [(8, _), (6, _), (5, _), (9, _), (7, _), (4, _), (3, _), (0, _), (1, _), (2, _)]) dX12_least_169 rfl rfl (by decide) rfl ?_
                    have hst : mLeastT p (mA M 12 r) v (y, no, false, mm) = (y, 0, false, mm) := by unfold mLeastT; grind
                    refine ax_goto (tgt := 58) dX12_least_172 (by decide) ?_
                    rw [nI_1]
                    exact ax_loc rfl (ih (j + 1) (y) (0) false mm (by omega) (by show mLeF M r p s j (mIter (mLeF M r p s) j _) = _; rw [ha]; exact (congrArg (fun w => mLeastT p (mA M 12 r) w (y, no, false, mm)) hv).trans hst))
                  · refine ax_iconst (v := 1) dX12_least_141 (by decide) ?_
                    refine ax_istore (lv' := [(7, _), (6, _), (5, _), (9, _), (8, _), (4, _), (3, _), (0, _), (1, _), (2, _)]) dX12_least_142 (by decide) rfl ?_
                    refine ax_iinc (v := _ + 1) (lv' := [(3, _), (7, _), (6, _), (5, _), (9, _), (8, _), (4, _), (0, _), (1, _), (2, _)]) dX12_least_144 rfl rfl (by decide) rfl ?_
                    refine ax_goto (tgt := 169) dX12_least_147 (by decide) ?_
                    refine ax_iinc (v := _ + 1) (lv' := [(8, _), (3, _), (7, _), (6, _), (5, _), (9, _), (4, _), (0, _), (1, _), (2, _)]) dX12_least_169 rfl rfl (by decide) rfl ?_
                    have hst : mLeastT p (mA M 12 r) v (y, no, false, mm) = (y, 0, true, (mm + 1)) := by unfold mLeastT; grind
                    refine ax_goto (tgt := 58) dX12_least_172 (by decide) ?_
                    rw [nI_1, nI_1]
                    exact ax_loc rfl (ih (j + 1) (y) (0) true (mm + 1) (by omega) (by show mLeF M r p s j (mIter (mLeF M r p s) j _) = _; rw [ha]; exact (congrArg (fun w => mLeastT p (mA M 12 r) w (y, no, false, mm)) hv).trans hst))
              · refine ax_iload dX12_least_109 rfl ?_
                refine ax_iconst (v := 1) dX12_least_111 (by decide) ?_
                refine ax_iadd dX12_least_112 ?_
                refine ax_goto (tgt := 128) dX12_least_113 (by decide) ?_
                refine ax_istore (lv' := [(6, _), (5, _), (9, _), (8, _), (7, _), (4, _), (3, _), (0, _), (1, _), (2, _)]) dX12_least_128 (by decide) rfl ?_
                refine ax_iload dX12_least_130 rfl ?_
                refine ax_if_ne (tgt := 150) dX12_least_132 (by decide) (fun z => absurd z (by decide)) (fun _ => ?_)
                refine ax_iload dX12_least_135 rfl ?_
                refine ax_iload_n (i := 2) dX12_least_137 rfl rfl ?_
                refine ax_icmp_lt (tgt := 150) dX12_least_138 (by decide) (fun c_138 => ?_) (fun c_138 => ?_)
                · refine ax_iload dX12_least_150 rfl ?_
                  refine ax_if_eq (tgt := 169) dX12_least_152 (by decide) (fun _ => ?_) (fun z => absurd (by decide) z)
                  refine ax_iinc (v := _ + 1) (lv' := [(8, _), (6, _), (5, _), (9, _), (7, _), (4, _), (3, _), (0, _), (1, _), (2, _)]) dX12_least_169 rfl rfl (by decide) rfl ?_
                  have hst : mLeastT p (mA M 12 r) v (y, no, false, mm) = (y, no + 1, false, mm) := by unfold mLeastT; grind
                  refine ax_goto (tgt := 58) dX12_least_172 (by decide) ?_
                  rw [nI_1]
                  exact ax_loc rfl (ih (j + 1) (y) (no + 1) false mm (by omega) (by show mLeF M r p s j (mIter (mLeF M r p s) j _) = _; rw [ha]; exact (congrArg (fun w => mLeastT p (mA M 12 r) w (y, no, false, mm)) hv).trans hst))
                · refine ax_iconst (v := 1) dX12_least_141 (by decide) ?_
                  refine ax_istore (lv' := [(7, _), (6, _), (5, _), (9, _), (8, _), (4, _), (3, _), (0, _), (1, _), (2, _)]) dX12_least_142 (by decide) rfl ?_
                  refine ax_iinc (v := _ + 1) (lv' := [(3, _), (7, _), (6, _), (5, _), (9, _), (8, _), (4, _), (0, _), (1, _), (2, _)]) dX12_least_144 rfl rfl (by decide) rfl ?_
                  refine ax_goto (tgt := 169) dX12_least_147 (by decide) ?_
                  refine ax_iinc (v := _ + 1) (lv' := [(8, _), (3, _), (7, _), (6, _), (5, _), (9, _), (4, _), (0, _), (1, _), (2, _)]) dX12_least_169 rfl rfl (by decide) rfl ?_
                  have hst : mLeastT p (mA M 12 r) v (y, no, false, mm) = (y, no + 1, true, (mm + 1)) := by unfold mLeastT; grind
                  refine ax_goto (tgt := 58) dX12_least_172 (by decide) ?_
                  rw [nI_1, nI_1]
                  exact ax_loc rfl (ih (j + 1) (y) (no + 1) true (mm + 1) (by omega) (by show mLeF M r p s j (mIter (mLeF M r p s) j _) = _; rw [ha]; exact (congrArg (fun w => mLeastT p (mA M 12 r) w (y, no, false, mm)) hv).trans hst))
            · refine ax_iconst (v := 0) dX12_least_96 (by decide) ?_
              refine ax_goto (tgt := 102) dX12_least_97 (by decide) ?_
              refine ax_istore (lv' := [(5, _), (9, _), (8, _), (7, _), (6, _), (4, _), (3, _), (0, _), (1, _), (2, _)]) dX12_least_102 (by decide) rfl ?_
              refine ax_iload dX12_least_104 rfl ?_
              refine ax_if_ne (tgt := 116) dX12_least_106 (by decide) (fun c_106 => ?_) (fun c_106 => ?_)
              · refine ax_iload dX12_least_116 rfl ?_
                refine ax_iconst (v := 1) dX12_least_118 (by decide) ?_
                refine ax_icmp_ne (tgt := 126) dX12_least_119 (by decide) (fun c_119 => ?_) (fun c_119 => ?_)
                · refine ax_iload dX12_least_126 rfl ?_
                  refine ax_istore (lv' := [(6, _), (5, _), (9, _), (8, _), (7, _), (4, _), (3, _), (0, _), (1, _), (2, _)]) dX12_least_128 (by decide) rfl ?_
                  refine ax_iload dX12_least_130 rfl ?_
                  refine ax_if_ne (tgt := 150) dX12_least_132 (by decide) (fun z => absurd z (by decide)) (fun _ => ?_)
                  refine ax_iload dX12_least_135 rfl ?_
                  refine ax_iload_n (i := 2) dX12_least_137 rfl rfl ?_
                  refine ax_icmp_lt (tgt := 150) dX12_least_138 (by decide) (fun c_138 => ?_) (fun c_138 => ?_)
                  · refine ax_iload dX12_least_150 rfl ?_
                    refine ax_if_eq (tgt := 169) dX12_least_152 (by decide) (fun _ => ?_) (fun z => absurd (by decide) z)
                    refine ax_iinc (v := _ + 1) (lv' := [(8, _), (6, _), (5, _), (9, _), (7, _), (4, _), (3, _), (0, _), (1, _), (2, _)]) dX12_least_169 rfl rfl (by decide) rfl ?_
                    have hst : mLeastT p (mA M 12 r) v (y, no, false, mm) = (0, no, false, mm) := by unfold mLeastT; grind
                    refine ax_goto (tgt := 58) dX12_least_172 (by decide) ?_
                    rw [nI_1]
                    exact ax_loc rfl (ih (j + 1) (0) (no) false mm (by omega) (by show mLeF M r p s j (mIter (mLeF M r p s) j _) = _; rw [ha]; exact (congrArg (fun w => mLeastT p (mA M 12 r) w (y, no, false, mm)) hv).trans hst))
                  · refine ax_iconst (v := 1) dX12_least_141 (by decide) ?_
                    refine ax_istore (lv' := [(7, _), (6, _), (5, _), (9, _), (8, _), (4, _), (3, _), (0, _), (1, _), (2, _)]) dX12_least_142 (by decide) rfl ?_
                    refine ax_iinc (v := _ + 1) (lv' := [(3, _), (7, _), (6, _), (5, _), (9, _), (8, _), (4, _), (0, _), (1, _), (2, _)]) dX12_least_144 rfl rfl (by decide) rfl ?_
                    refine ax_goto (tgt := 169) dX12_least_147 (by decide) ?_
                    refine ax_iinc (v := _ + 1) (lv' := [(8, _), (3, _), (7, _), (6, _), (5, _), (9, _), (4, _), (0, _), (1, _), (2, _)]) dX12_least_169 rfl rfl (by decide) rfl ?_
                    have hst : mLeastT p (mA M 12 r) v (y, no, false, mm) = (0, no, true, (mm + 1)) := by unfold mLeastT; grind
                    refine ax_goto (tgt := 58) dX12_least_172 (by decide) ?_
                    rw [nI_1, nI_1]
                    exact ax_loc rfl (ih (j + 1) (0) (no) true (mm + 1) (by omega) (by show mLeF M r p s j (mIter (mLeF M r p s) j _) = _; rw [ha]; exact (congrArg (fun w => mLeastT p (mA M 12 r) w (y, no, false, mm)) hv).trans hst))
                · refine ax_iconst (v := 0) dX12_least_122 (by decide) ?_
                  refine ax_goto (tgt := 128) dX12_least_123 (by decide) ?_
                  refine ax_istore (lv' := [(6, _), (5, _), (9, _), (8, _), (7, _), (4, _), (3, _), (0, _), (1, _), (2, _)]) dX12_least_128 (by decide) rfl ?_
                  refine ax_iload dX12_least_130 rfl ?_
                  refine ax_if_ne (tgt := 150) dX12_least_132 (by decide) (fun z => absurd z (by decide)) (fun _ => ?_)
                  refine ax_iload dX12_least_135 rfl ?_
                  refine ax_iload_n (i := 2) dX12_least_137 rfl rfl ?_
                  refine ax_icmp_lt (tgt := 150) dX12_least_138 (by decide) (fun c_138 => ?_) (fun c_138 => ?_)
                  · refine ax_iload dX12_least_150 rfl ?_
                    refine ax_if_eq (tgt := 169) dX12_least_152 (by decide) (fun _ => ?_) (fun z => absurd (by decide) z)
                    refine ax_iinc (v := _ + 1) (lv' := [(8, _), (6, _), (5, _), (9, _), (7, _), (4, _), (3, _), (0, _), (1, _), (2, _)]) dX12_least_169 rfl rfl (by decide) rfl ?_
                    have hst : mLeastT p (mA M 12 r) v (y, no, false, mm) = (0, 0, false, mm) := by unfold mLeastT; grind
                    refine ax_goto (tgt := 58) dX12_least_172 (by decide) ?_
                    rw [nI_1]
                    exact ax_loc rfl (ih (j + 1) (0) (0) false mm (by omega) (by show mLeF M r p s j (mIter (mLeF M r p s) j _) = _; rw [ha]; exact (congrArg (fun w => mLeastT p (mA M 12 r) w (y, no, false, mm)) hv).trans hst))
                  · refine ax_iconst (v := 1) dX12_least_141 (by decide) ?_
                    refine ax_istore (lv' := [(7, _), (6, _), (5, _), (9, _), (8, _), (4, _), (3, _), (0, _), (1, _), (2, _)]) dX12_least_142 (by decide) rfl ?_
                    refine ax_iinc (v := _ + 1) (lv' := [(3, _), (7, _), (6, _), (5, _), (9, _), (8, _), (4, _), (0, _), (1, _), (2, _)]) dX12_least_144 rfl rfl (by decide) rfl ?_
                    refine ax_goto (tgt := 169) dX12_least_147 (by decide) ?_
                    refine ax_iinc (v := _ + 1) (lv' := [(8, _), (3, _), (7, _), (6, _), (5, _), (9, _), (4, _), (0, _), (1, _), (2, _)]) dX12_least_169 rfl rfl (by decide) rfl ?_
                    have hst : mLeastT p (mA M 12 r) v (y, no, false, mm) = (0, 0, true, (mm + 1)) := by unfold mLeastT; grind
                    refine ax_goto (tgt := 58) dX12_least_172 (by decide) ?_
                    rw [nI_1, nI_1]
                    exact ax_loc rfl (ih (j + 1) (0) (0) true (mm + 1) (by omega) (by show mLeF M r p s j (mIter (mLeF M r p s) j _) = _; rw [ha]; exact (congrArg (fun w => mLeastT p (mA M 12 r) w (y, no, false, mm)) hv).trans hst))
              · refine ax_iload dX12_least_109 rfl ?_
                refine ax_iconst (v := 1) dX12_least_111 (by decide) ?_
                refine ax_iadd dX12_least_112 ?_
                refine ax_goto (tgt := 128) dX12_least_113 (by decide) ?_
                refine ax_istore (lv' := [(6, _), (5, _), (9, _), (8, _), (7, _), (4, _), (3, _), (0, _), (1, _), (2, _)]) dX12_least_128 (by decide) rfl ?_
                refine ax_iload dX12_least_130 rfl ?_
                refine ax_if_ne (tgt := 150) dX12_least_132 (by decide) (fun z => absurd z (by decide)) (fun _ => ?_)
                refine ax_iload dX12_least_135 rfl ?_
                refine ax_iload_n (i := 2) dX12_least_137 rfl rfl ?_
                refine ax_icmp_lt (tgt := 150) dX12_least_138 (by decide) (fun c_138 => ?_) (fun c_138 => ?_)
                · refine ax_iload dX12_least_150 rfl ?_
                  refine ax_if_eq (tgt := 169) dX12_least_152 (by decide) (fun _ => ?_) (fun z => absurd (by decide) z)
                  refine ax_iinc (v := _ + 1) (lv' := [(8, _), (6, _), (5, _), (9, _), (7, _), (4, _), (3, _), (0, _), (1, _), (2, _)]) dX12_least_169 rfl rfl (by decide) rfl ?_
                  have hst : mLeastT p (mA M 12 r) v (y, no, false, mm) = (0, no + 1, false, mm) := by unfold mLeastT; grind
                  refine ax_goto (tgt := 58) dX12_least_172 (by decide) ?_
                  rw [nI_1]
                  exact ax_loc rfl (ih (j + 1) (0) (no + 1) false mm (by omega) (by show mLeF M r p s j (mIter (mLeF M r p s) j _) = _; rw [ha]; exact (congrArg (fun w => mLeastT p (mA M 12 r) w (y, no, false, mm)) hv).trans hst))
                · refine ax_iconst (v := 1) dX12_least_141 (by decide) ?_
                  refine ax_istore (lv' := [(7, _), (6, _), (5, _), (9, _), (8, _), (4, _), (3, _), (0, _), (1, _), (2, _)]) dX12_least_142 (by decide) rfl ?_
                  refine ax_iinc (v := _ + 1) (lv' := [(3, _), (7, _), (6, _), (5, _), (9, _), (8, _), (4, _), (0, _), (1, _), (2, _)]) dX12_least_144 rfl rfl (by decide) rfl ?_
                  refine ax_goto (tgt := 169) dX12_least_147 (by decide) ?_
                  refine ax_iinc (v := _ + 1) (lv' := [(8, _), (3, _), (7, _), (6, _), (5, _), (9, _), (4, _), (0, _), (1, _), (2, _)]) dX12_least_169 rfl rfl (by decide) rfl ?_
                  have hst : mLeastT p (mA M 12 r) v (y, no, false, mm) = (0, no + 1, true, (mm + 1)) := by unfold mLeastT; grind
                  refine ax_goto (tgt := 58) dX12_least_172 (by decide) ?_
                  rw [nI_1, nI_1]
                  exact ax_loc rfl (ih (j + 1) (0) (no + 1) true (mm + 1) (by omega) (by show mLeF M r p s j (mIter (mLeF M r p s) j _) = _; rw [ha]; exact (congrArg (fun w => mLeastT p (mA M 12 r) w (y, no, false, mm)) hv).trans hst))
          · refine ax_iload dX12_least_84 rfl ?_
            refine ax_iconst (v := 1) dX12_least_86 (by decide) ?_
            refine ax_iadd dX12_least_87 ?_
            refine ax_goto (tgt := 102) dX12_least_88 (by decide) ?_
            refine ax_istore (lv' := [(5, _), (9, _), (8, _), (7, _), (6, _), (4, _), (3, _), (0, _), (1, _), (2, _)]) dX12_least_102 (by decide) rfl ?_
            refine ax_iload dX12_least_104 rfl ?_
            refine ax_if_ne (tgt := 116) dX12_least_106 (by decide) (fun c_106 => ?_) (fun c_106 => ?_)
            · refine ax_iload dX12_least_116 rfl ?_
              refine ax_iconst (v := 1) dX12_least_118 (by decide) ?_
              refine ax_icmp_ne (tgt := 126) dX12_least_119 (by decide) (fun c_119 => ?_) (fun c_119 => ?_)
              · refine ax_iload dX12_least_126 rfl ?_
                refine ax_istore (lv' := [(6, _), (5, _), (9, _), (8, _), (7, _), (4, _), (3, _), (0, _), (1, _), (2, _)]) dX12_least_128 (by decide) rfl ?_
                refine ax_iload dX12_least_130 rfl ?_
                refine ax_if_ne (tgt := 150) dX12_least_132 (by decide) (fun z => absurd z (by decide)) (fun _ => ?_)
                refine ax_iload dX12_least_135 rfl ?_
                refine ax_iload_n (i := 2) dX12_least_137 rfl rfl ?_
                refine ax_icmp_lt (tgt := 150) dX12_least_138 (by decide) (fun c_138 => ?_) (fun c_138 => ?_)
                · refine ax_iload dX12_least_150 rfl ?_
                  refine ax_if_eq (tgt := 169) dX12_least_152 (by decide) (fun _ => ?_) (fun z => absurd (by decide) z)
                  refine ax_iinc (v := _ + 1) (lv' := [(8, _), (6, _), (5, _), (9, _), (7, _), (4, _), (3, _), (0, _), (1, _), (2, _)]) dX12_least_169 rfl rfl (by decide) rfl ?_
                  have hst : mLeastT p (mA M 12 r) v (y, no, false, mm) = (y + 1, no, false, mm) := by unfold mLeastT; grind
                  refine ax_goto (tgt := 58) dX12_least_172 (by decide) ?_
                  rw [nI_1]
                  exact ax_loc rfl (ih (j + 1) (y + 1) (no) false mm (by omega) (by show mLeF M r p s j (mIter (mLeF M r p s) j _) = _; rw [ha]; exact (congrArg (fun w => mLeastT p (mA M 12 r) w (y, no, false, mm)) hv).trans hst))
                · refine ax_iconst (v := 1) dX12_least_141 (by decide) ?_
                  refine ax_istore (lv' := [(7, _), (6, _), (5, _), (9, _), (8, _), (4, _), (3, _), (0, _), (1, _), (2, _)]) dX12_least_142 (by decide) rfl ?_
                  refine ax_iinc (v := _ + 1) (lv' := [(3, _), (7, _), (6, _), (5, _), (9, _), (8, _), (4, _), (0, _), (1, _), (2, _)]) dX12_least_144 rfl rfl (by decide) rfl ?_
                  refine ax_goto (tgt := 169) dX12_least_147 (by decide) ?_
                  refine ax_iinc (v := _ + 1) (lv' := [(8, _), (3, _), (7, _), (6, _), (5, _), (9, _), (4, _), (0, _), (1, _), (2, _)]) dX12_least_169 rfl rfl (by decide) rfl ?_
                  have hst : mLeastT p (mA M 12 r) v (y, no, false, mm) = (y + 1, no, true, (mm + 1)) := by unfold mLeastT; grind
                  refine ax_goto (tgt := 58) dX12_least_172 (by decide) ?_
                  rw [nI_1, nI_1]
                  exact ax_loc rfl (ih (j + 1) (y + 1) (no) true (mm + 1) (by omega) (by show mLeF M r p s j (mIter (mLeF M r p s) j _) = _; rw [ha]; exact (congrArg (fun w => mLeastT p (mA M 12 r) w (y, no, false, mm)) hv).trans hst))
              · refine ax_iconst (v := 0) dX12_least_122 (by decide) ?_
                refine ax_goto (tgt := 128) dX12_least_123 (by decide) ?_
                refine ax_istore (lv' := [(6, _), (5, _), (9, _), (8, _), (7, _), (4, _), (3, _), (0, _), (1, _), (2, _)]) dX12_least_128 (by decide) rfl ?_
                refine ax_iload dX12_least_130 rfl ?_
                refine ax_if_ne (tgt := 150) dX12_least_132 (by decide) (fun z => absurd z (by decide)) (fun _ => ?_)
                refine ax_iload dX12_least_135 rfl ?_
                refine ax_iload_n (i := 2) dX12_least_137 rfl rfl ?_
                refine ax_icmp_lt (tgt := 150) dX12_least_138 (by decide) (fun c_138 => ?_) (fun c_138 => ?_)
                · refine ax_iload dX12_least_150 rfl ?_
                  refine ax_if_eq (tgt := 169) dX12_least_152 (by decide) (fun _ => ?_) (fun z => absurd (by decide) z)
                  refine ax_iinc (v := _ + 1) (lv' := [(8, _), (6, _), (5, _), (9, _), (7, _), (4, _), (3, _), (0, _), (1, _), (2, _)]) dX12_least_169 rfl rfl (by decide) rfl ?_
                  have hst : mLeastT p (mA M 12 r) v (y, no, false, mm) = (y + 1, 0, false, mm) := by unfold mLeastT; grind
                  refine ax_goto (tgt := 58) dX12_least_172 (by decide) ?_
                  rw [nI_1]
                  exact ax_loc rfl (ih (j + 1) (y + 1) (0) false mm (by omega) (by show mLeF M r p s j (mIter (mLeF M r p s) j _) = _; rw [ha]; exact (congrArg (fun w => mLeastT p (mA M 12 r) w (y, no, false, mm)) hv).trans hst))
                · refine ax_iconst (v := 1) dX12_least_141 (by decide) ?_
                  refine ax_istore (lv' := [(7, _), (6, _), (5, _), (9, _), (8, _), (4, _), (3, _), (0, _), (1, _), (2, _)]) dX12_least_142 (by decide) rfl ?_
                  refine ax_iinc (v := _ + 1) (lv' := [(3, _), (7, _), (6, _), (5, _), (9, _), (8, _), (4, _), (0, _), (1, _), (2, _)]) dX12_least_144 rfl rfl (by decide) rfl ?_
                  refine ax_goto (tgt := 169) dX12_least_147 (by decide) ?_
                  refine ax_iinc (v := _ + 1) (lv' := [(8, _), (3, _), (7, _), (6, _), (5, _), (9, _), (4, _), (0, _), (1, _), (2, _)]) dX12_least_169 rfl rfl (by decide) rfl ?_
                  have hst : mLeastT p (mA M 12 r) v (y, no, false, mm) = (y + 1, 0, true, (mm + 1)) := by unfold mLeastT; grind
                  refine ax_goto (tgt := 58) dX12_least_172 (by decide) ?_
                  rw [nI_1, nI_1]
                  exact ax_loc rfl (ih (j + 1) (y + 1) (0) true (mm + 1) (by omega) (by show mLeF M r p s j (mIter (mLeF M r p s) j _) = _; rw [ha]; exact (congrArg (fun w => mLeastT p (mA M 12 r) w (y, no, false, mm)) hv).trans hst))
            · refine ax_iload dX12_least_109 rfl ?_
              refine ax_iconst (v := 1) dX12_least_111 (by decide) ?_
              refine ax_iadd dX12_least_112 ?_
              refine ax_goto (tgt := 128) dX12_least_113 (by decide) ?_
              refine ax_istore (lv' := [(6, _), (5, _), (9, _), (8, _), (7, _), (4, _), (3, _), (0, _), (1, _), (2, _)]) dX12_least_128 (by decide) rfl ?_
              refine ax_iload dX12_least_130 rfl ?_
              refine ax_if_ne (tgt := 150) dX12_least_132 (by decide) (fun z => absurd z (by decide)) (fun _ => ?_)
              refine ax_iload dX12_least_135 rfl ?_
              refine ax_iload_n (i := 2) dX12_least_137 rfl rfl ?_
              refine ax_icmp_lt (tgt := 150) dX12_least_138 (by decide) (fun c_138 => ?_) (fun c_138 => ?_)
              · refine ax_iload dX12_least_150 rfl ?_
                refine ax_if_eq (tgt := 169) dX12_least_152 (by decide) (fun _ => ?_) (fun z => absurd (by decide) z)
                refine ax_iinc (v := _ + 1) (lv' := [(8, _), (6, _), (5, _), (9, _), (7, _), (4, _), (3, _), (0, _), (1, _), (2, _)]) dX12_least_169 rfl rfl (by decide) rfl ?_
                have hst : mLeastT p (mA M 12 r) v (y, no, false, mm) = (y + 1, no + 1, false, mm) := by unfold mLeastT; grind
                refine ax_goto (tgt := 58) dX12_least_172 (by decide) ?_
                rw [nI_1]
                exact ax_loc rfl (ih (j + 1) (y + 1) (no + 1) false mm (by omega) (by show mLeF M r p s j (mIter (mLeF M r p s) j _) = _; rw [ha]; exact (congrArg (fun w => mLeastT p (mA M 12 r) w (y, no, false, mm)) hv).trans hst))
              · refine ax_iconst (v := 1) dX12_least_141 (by decide) ?_
                refine ax_istore (lv' := [(7, _), (6, _), (5, _), (9, _), (8, _), (4, _), (3, _), (0, _), (1, _), (2, _)]) dX12_least_142 (by decide) rfl ?_
                refine ax_iinc (v := _ + 1) (lv' := [(3, _), (7, _), (6, _), (5, _), (9, _), (8, _), (4, _), (0, _), (1, _), (2, _)]) dX12_least_144 rfl rfl (by decide) rfl ?_
                refine ax_goto (tgt := 169) dX12_least_147 (by decide) ?_
                refine ax_iinc (v := _ + 1) (lv' := [(8, _), (3, _), (7, _), (6, _), (5, _), (9, _), (4, _), (0, _), (1, _), (2, _)]) dX12_least_169 rfl rfl (by decide) rfl ?_
                have hst : mLeastT p (mA M 12 r) v (y, no, false, mm) = (y + 1, no + 1, true, (mm + 1)) := by unfold mLeastT; grind
                refine ax_goto (tgt := 58) dX12_least_172 (by decide) ?_
                rw [nI_1, nI_1]
                exact ax_loc rfl (ih (j + 1) (y + 1) (no + 1) true (mm + 1) (by omega) (by show mLeF M r p s j (mIter (mLeF M r p s) j _) = _; rw [ha]; exact (congrArg (fun w => mLeastT p (mA M 12 r) w (y, no, false, mm)) hv).trans hst))
      | true =>
        show awX b E m_X12_least 58 [(8, .int (nI (mE M 15 r + j))), (7, .int 1), (6, .int no), (5, .int y), (4, .int (nI s)), (3, .int (nI mm)), (0, .ref (nm 13 0)), (1, .int (nI r)), (2, .int p)] [] (putM S M) 0 0 Q
        refine ax_iload dX12_least_58 rfl ?_
        refine ax_aload_n (i := 0) dX12_least_60 rfl rfl rfl ?_
        refine ax_mS dX12_least_61 fl_X12_262 rfl ?_
        refine ax_icmp_gt (tgt := 175) dX12_least_64 (by decide) (fun c_64 => ?_) (fun c_64 => ?_)
        · exact absurd (show nI (mN M 1) < nI (mE M 15 r + j) by rw [← ec]; exact c_64) (Int32.not_lt.mpr (nI_le (by omega) (by omega)))
        · refine ax_aload_n (i := 0) dX12_least_67 rfl rfl rfl ?_
          refine ax_iload_n (i := 1) dX12_least_68 rfl rfl ?_
          refine ax_iload dX12_least_69 rfl ?_
          refine ax_iload dX12_least_71 rfl ?_
          refine ax_invV (c := 13) (n := 3) (As := [_, _, _]) dX12_least_73 cb_X12_truthAt cv_X12_317.1 cv_X12_317.2.1 cv_X12_317.2.2 rfl (by decide) rfl ⟨Nat.le_of_ble_eq_true rfl, Nat.le_of_ble_eq_true rfl⟩ (Nat.le_of_ble_eq_true rfl) rfl (t_truthAt hm (by omega) hs (by omega) ?_)
          refine ax_istore (lv' := [(9, _), (8, _), (7, _), (6, _), (5, _), (4, _), (3, _), (0, _), (1, _), (2, _)]) dX12_least_76 (by decide) rfl ?_
          generalize hv : mTru M r s (mE M 15 r + j) = v
          refine ax_iload dX12_least_78 rfl ?_
          refine ax_iconst (v := 1) dX12_least_80 (by decide) ?_
          refine ax_icmp_ne (tgt := 91) dX12_least_81 (by decide) (fun c_81 => ?_) (fun c_81 => ?_)
          · refine ax_iload dX12_least_91 rfl ?_
            refine ax_if_ne (tgt := 100) dX12_least_93 (by decide) (fun c_93 => ?_) (fun c_93 => ?_)
            · refine ax_iload dX12_least_100 rfl ?_
              refine ax_istore (lv' := [(5, _), (9, _), (8, _), (7, _), (6, _), (4, _), (3, _), (0, _), (1, _), (2, _)]) dX12_least_102 (by decide) rfl ?_
              refine ax_iload dX12_least_104 rfl ?_
              refine ax_if_ne (tgt := 116) dX12_least_106 (by decide) (fun c_106 => ?_) (fun c_106 => ?_)
              · refine ax_iload dX12_least_116 rfl ?_
                refine ax_iconst (v := 1) dX12_least_118 (by decide) ?_
                refine ax_icmp_ne (tgt := 126) dX12_least_119 (by decide) (fun c_119 => ?_) (fun c_119 => ?_)
                · refine ax_iload dX12_least_126 rfl ?_
                  refine ax_istore (lv' := [(6, _), (5, _), (9, _), (8, _), (7, _), (4, _), (3, _), (0, _), (1, _), (2, _)]) dX12_least_128 (by decide) rfl ?_
                  refine ax_iload dX12_least_130 rfl ?_
                  refine ax_if_ne (tgt := 150) dX12_least_132 (by decide) (fun _ => ?_) (fun z => absurd (by decide) z)
                  refine ax_iload dX12_least_150 rfl ?_
                  refine ax_if_eq (tgt := 169) dX12_least_152 (by decide) (fun z => absurd z (by decide)) (fun _ => ?_)
                  refine ax_iload dX12_least_155 rfl ?_
                  refine ax_aload_n (i := 0) dX12_least_157 rfl rfl rfl ?_
                  refine ax_mR hm dX12_least_158 fl_X12_36 rfl (by decide) ?_
                  refine ax_iload_n (i := 1) dX12_least_161 rfl rfl ?_
                  refine ax_mIN (N := 16) hm dX12_least_162 rfl rfl (by decide) (by omega) ?_
                  refine ax_icmp_lt (tgt := 169) dX12_least_163 (by decide) (fun c_163 => ?_) (fun c_163 => ?_)
                  · refine ax_iinc (v := _ + 1) (lv' := [(8, _), (6, _), (5, _), (9, _), (7, _), (4, _), (3, _), (0, _), (1, _), (2, _)]) dX12_least_169 rfl rfl (by decide) rfl ?_
                    have hst : mLeastT p (mA M 12 r) v (y, no, true, mm) = (y, no, true, mm) := by unfold mLeastT; grind
                    refine ax_goto (tgt := 58) dX12_least_172 (by decide) ?_
                    rw [nI_1]
                    exact ax_loc rfl (ih (j + 1) (y) (no) true mm (by omega) (by show mLeF M r p s j (mIter (mLeF M r p s) j _) = _; rw [ha]; exact (congrArg (fun w => mLeastT p (mA M 12 r) w (y, no, true, mm)) hv).trans hst))
                  · refine ax_iconst (v := 0) dX12_least_166 (by decide) ?_
                    refine ax_istore (lv' := [(7, _), (6, _), (5, _), (9, _), (8, _), (4, _), (3, _), (0, _), (1, _), (2, _)]) dX12_least_167 (by decide) rfl ?_
                    refine ax_iinc (v := _ + 1) (lv' := [(8, _), (7, _), (6, _), (5, _), (9, _), (4, _), (3, _), (0, _), (1, _), (2, _)]) dX12_least_169 rfl rfl (by decide) rfl ?_
                    have hst : mLeastT p (mA M 12 r) v (y, no, true, mm) = (y, no, false, mm) := by unfold mLeastT; grind
                    refine ax_goto (tgt := 58) dX12_least_172 (by decide) ?_
                    rw [nI_1]
                    exact ax_loc rfl (ih (j + 1) (y) (no) false mm (by omega) (by show mLeF M r p s j (mIter (mLeF M r p s) j _) = _; rw [ha]; exact (congrArg (fun w => mLeastT p (mA M 12 r) w (y, no, true, mm)) hv).trans hst))
                · refine ax_iconst (v := 0) dX12_least_122 (by decide) ?_
                  refine ax_goto (tgt := 128) dX12_least_123 (by decide) ?_
                  refine ax_istore (lv' := [(6, _), (5, _), (9, _), (8, _), (7, _), (4, _), (3, _), (0, _), (1, _), (2, _)]) dX12_least_128 (by decide) rfl ?_
                  refine ax_iload dX12_least_130 rfl ?_
                  refine ax_if_ne (tgt := 150) dX12_least_132 (by decide) (fun _ => ?_) (fun z => absurd (by decide) z)
                  refine ax_iload dX12_least_150 rfl ?_
                  refine ax_if_eq (tgt := 169) dX12_least_152 (by decide) (fun z => absurd z (by decide)) (fun _ => ?_)
                  refine ax_iload dX12_least_155 rfl ?_
                  refine ax_aload_n (i := 0) dX12_least_157 rfl rfl rfl ?_
                  refine ax_mR hm dX12_least_158 fl_X12_36 rfl (by decide) ?_
                  refine ax_iload_n (i := 1) dX12_least_161 rfl rfl ?_
                  refine ax_mIN (N := 16) hm dX12_least_162 rfl rfl (by decide) (by omega) ?_
                  refine ax_icmp_lt (tgt := 169) dX12_least_163 (by decide) (fun c_163 => ?_) (fun c_163 => ?_)
                  · refine ax_iinc (v := _ + 1) (lv' := [(8, _), (6, _), (5, _), (9, _), (7, _), (4, _), (3, _), (0, _), (1, _), (2, _)]) dX12_least_169 rfl rfl (by decide) rfl ?_
                    have hst : mLeastT p (mA M 12 r) v (y, no, true, mm) = (y, 0, true, mm) := by unfold mLeastT; grind
                    refine ax_goto (tgt := 58) dX12_least_172 (by decide) ?_
                    rw [nI_1]
                    exact ax_loc rfl (ih (j + 1) (y) (0) true mm (by omega) (by show mLeF M r p s j (mIter (mLeF M r p s) j _) = _; rw [ha]; exact (congrArg (fun w => mLeastT p (mA M 12 r) w (y, no, true, mm)) hv).trans hst))
                  · refine ax_iconst (v := 0) dX12_least_166 (by decide) ?_
                    refine ax_istore (lv' := [(7, _), (6, _), (5, _), (9, _), (8, _), (4, _), (3, _), (0, _), (1, _), (2, _)]) dX12_least_167 (by decide) rfl ?_
                    refine ax_iinc (v := _ + 1) (lv' := [(8, _), (7, _), (6, _), (5, _), (9, _), (4, _), (3, _), (0, _), (1, _), (2, _)]) dX12_least_169 rfl rfl (by decide) rfl ?_
                    have hst : mLeastT p (mA M 12 r) v (y, no, true, mm) = (y, 0, false, mm) := by unfold mLeastT; grind
                    refine ax_goto (tgt := 58) dX12_least_172 (by decide) ?_
                    rw [nI_1]
                    exact ax_loc rfl (ih (j + 1) (y) (0) false mm (by omega) (by show mLeF M r p s j (mIter (mLeF M r p s) j _) = _; rw [ha]; exact (congrArg (fun w => mLeastT p (mA M 12 r) w (y, no, true, mm)) hv).trans hst))
              · refine ax_iload dX12_least_109 rfl ?_
                refine ax_iconst (v := 1) dX12_least_111 (by decide) ?_
                refine ax_iadd dX12_least_112 ?_
                refine ax_goto (tgt := 128) dX12_least_113 (by decide) ?_
                refine ax_istore (lv' := [(6, _), (5, _), (9, _), (8, _), (7, _), (4, _), (3, _), (0, _), (1, _), (2, _)]) dX12_least_128 (by decide) rfl ?_
                refine ax_iload dX12_least_130 rfl ?_
                refine ax_if_ne (tgt := 150) dX12_least_132 (by decide) (fun _ => ?_) (fun z => absurd (by decide) z)
                refine ax_iload dX12_least_150 rfl ?_
                refine ax_if_eq (tgt := 169) dX12_least_152 (by decide) (fun z => absurd z (by decide)) (fun _ => ?_)
                refine ax_iload dX12_least_155 rfl ?_
                refine ax_aload_n (i := 0) dX12_least_157 rfl rfl rfl ?_
                refine ax_mR hm dX12_least_158 fl_X12_36 rfl (by decide) ?_
                refine ax_iload_n (i := 1) dX12_least_161 rfl rfl ?_
                refine ax_mIN (N := 16) hm dX12_least_162 rfl rfl (by decide) (by omega) ?_
                refine ax_icmp_lt (tgt := 169) dX12_least_163 (by decide) (fun c_163 => ?_) (fun c_163 => ?_)
                · refine ax_iinc (v := _ + 1) (lv' := [(8, _), (6, _), (5, _), (9, _), (7, _), (4, _), (3, _), (0, _), (1, _), (2, _)]) dX12_least_169 rfl rfl (by decide) rfl ?_
                  have hst : mLeastT p (mA M 12 r) v (y, no, true, mm) = (y, no + 1, true, mm) := by unfold mLeastT; grind
                  refine ax_goto (tgt := 58) dX12_least_172 (by decide) ?_
                  rw [nI_1]
                  exact ax_loc rfl (ih (j + 1) (y) (no + 1) true mm (by omega) (by show mLeF M r p s j (mIter (mLeF M r p s) j _) = _; rw [ha]; exact (congrArg (fun w => mLeastT p (mA M 12 r) w (y, no, true, mm)) hv).trans hst))
                · refine ax_iconst (v := 0) dX12_least_166 (by decide) ?_
                  refine ax_istore (lv' := [(7, _), (6, _), (5, _), (9, _), (8, _), (4, _), (3, _), (0, _), (1, _), (2, _)]) dX12_least_167 (by decide) rfl ?_
                  refine ax_iinc (v := _ + 1) (lv' := [(8, _), (7, _), (6, _), (5, _), (9, _), (4, _), (3, _), (0, _), (1, _), (2, _)]) dX12_least_169 rfl rfl (by decide) rfl ?_
                  have hst : mLeastT p (mA M 12 r) v (y, no, true, mm) = (y, no + 1, false, mm) := by unfold mLeastT; grind
                  refine ax_goto (tgt := 58) dX12_least_172 (by decide) ?_
                  rw [nI_1]
                  exact ax_loc rfl (ih (j + 1) (y) (no + 1) false mm (by omega) (by show mLeF M r p s j (mIter (mLeF M r p s) j _) = _; rw [ha]; exact (congrArg (fun w => mLeastT p (mA M 12 r) w (y, no, true, mm)) hv).trans hst))
            · refine ax_iconst (v := 0) dX12_least_96 (by decide) ?_
              refine ax_goto (tgt := 102) dX12_least_97 (by decide) ?_
              refine ax_istore (lv' := [(5, _), (9, _), (8, _), (7, _), (6, _), (4, _), (3, _), (0, _), (1, _), (2, _)]) dX12_least_102 (by decide) rfl ?_
              refine ax_iload dX12_least_104 rfl ?_
              refine ax_if_ne (tgt := 116) dX12_least_106 (by decide) (fun c_106 => ?_) (fun c_106 => ?_)
              · refine ax_iload dX12_least_116 rfl ?_
                refine ax_iconst (v := 1) dX12_least_118 (by decide) ?_
                refine ax_icmp_ne (tgt := 126) dX12_least_119 (by decide) (fun c_119 => ?_) (fun c_119 => ?_)
                · refine ax_iload dX12_least_126 rfl ?_
                  refine ax_istore (lv' := [(6, _), (5, _), (9, _), (8, _), (7, _), (4, _), (3, _), (0, _), (1, _), (2, _)]) dX12_least_128 (by decide) rfl ?_
                  refine ax_iload dX12_least_130 rfl ?_
                  refine ax_if_ne (tgt := 150) dX12_least_132 (by decide) (fun _ => ?_) (fun z => absurd (by decide) z)
                  refine ax_iload dX12_least_150 rfl ?_
                  refine ax_if_eq (tgt := 169) dX12_least_152 (by decide) (fun z => absurd z (by decide)) (fun _ => ?_)
                  refine ax_iload dX12_least_155 rfl ?_
                  refine ax_aload_n (i := 0) dX12_least_157 rfl rfl rfl ?_
                  refine ax_mR hm dX12_least_158 fl_X12_36 rfl (by decide) ?_
                  refine ax_iload_n (i := 1) dX12_least_161 rfl rfl ?_
                  refine ax_mIN (N := 16) hm dX12_least_162 rfl rfl (by decide) (by omega) ?_
                  refine ax_icmp_lt (tgt := 169) dX12_least_163 (by decide) (fun c_163 => ?_) (fun c_163 => ?_)
                  · refine ax_iinc (v := _ + 1) (lv' := [(8, _), (6, _), (5, _), (9, _), (7, _), (4, _), (3, _), (0, _), (1, _), (2, _)]) dX12_least_169 rfl rfl (by decide) rfl ?_
                    have hst : mLeastT p (mA M 12 r) v (y, no, true, mm) = (0, no, true, mm) := by unfold mLeastT; grind
                    refine ax_goto (tgt := 58) dX12_least_172 (by decide) ?_
                    rw [nI_1]
                    exact ax_loc rfl (ih (j + 1) (0) (no) true mm (by omega) (by show mLeF M r p s j (mIter (mLeF M r p s) j _) = _; rw [ha]; exact (congrArg (fun w => mLeastT p (mA M 12 r) w (y, no, true, mm)) hv).trans hst))
                  · refine ax_iconst (v := 0) dX12_least_166 (by decide) ?_
                    refine ax_istore (lv' := [(7, _), (6, _), (5, _), (9, _), (8, _), (4, _), (3, _), (0, _), (1, _), (2, _)]) dX12_least_167 (by decide) rfl ?_
                    refine ax_iinc (v := _ + 1) (lv' := [(8, _), (7, _), (6, _), (5, _), (9, _), (4, _), (3, _), (0, _), (1, _), (2, _)]) dX12_least_169 rfl rfl (by decide) rfl ?_
                    have hst : mLeastT p (mA M 12 r) v (y, no, true, mm) = (0, no, false, mm) := by unfold mLeastT; grind
                    refine ax_goto (tgt := 58) dX12_least_172 (by decide) ?_
                    rw [nI_1]
                    exact ax_loc rfl (ih (j + 1) (0) (no) false mm (by omega) (by show mLeF M r p s j (mIter (mLeF M r p s) j _) = _; rw [ha]; exact (congrArg (fun w => mLeastT p (mA M 12 r) w (y, no, true, mm)) hv).trans hst))
                · refine ax_iconst (v := 0) dX12_least_122 (by decide) ?_
                  refine ax_goto (tgt := 128) dX12_least_123 (by decide) ?_
                  refine ax_istore (lv' := [(6, _), (5, _), (9, _), (8, _), (7, _), (4, _), (3, _), (0, _), (1, _), (2, _)]) dX12_least_128 (by decide) rfl ?_
                  refine ax_iload dX12_least_130 rfl ?_
                  refine ax_if_ne (tgt := 150) dX12_least_132 (by decide) (fun _ => ?_) (fun z => absurd (by decide) z)
                  refine ax_iload dX12_least_150 rfl ?_
                  refine ax_if_eq (tgt := 169) dX12_least_152 (by decide) (fun z => absurd z (by decide)) (fun _ => ?_)
                  refine ax_iload dX12_least_155 rfl ?_
                  refine ax_aload_n (i := 0) dX12_least_157 rfl rfl rfl ?_
                  refine ax_mR hm dX12_least_158 fl_X12_36 rfl (by decide) ?_
                  refine ax_iload_n (i := 1) dX12_least_161 rfl rfl ?_
                  refine ax_mIN (N := 16) hm dX12_least_162 rfl rfl (by decide) (by omega) ?_
                  refine ax_icmp_lt (tgt := 169) dX12_least_163 (by decide) (fun c_163 => ?_) (fun c_163 => ?_)
                  · refine ax_iinc (v := _ + 1) (lv' := [(8, _), (6, _), (5, _), (9, _), (7, _), (4, _), (3, _), (0, _), (1, _), (2, _)]) dX12_least_169 rfl rfl (by decide) rfl ?_
                    have hst : mLeastT p (mA M 12 r) v (y, no, true, mm) = (0, 0, true, mm) := by unfold mLeastT; grind
                    refine ax_goto (tgt := 58) dX12_least_172 (by decide) ?_
                    rw [nI_1]
                    exact ax_loc rfl (ih (j + 1) (0) (0) true mm (by omega) (by show mLeF M r p s j (mIter (mLeF M r p s) j _) = _; rw [ha]; exact (congrArg (fun w => mLeastT p (mA M 12 r) w (y, no, true, mm)) hv).trans hst))
                  · refine ax_iconst (v := 0) dX12_least_166 (by decide) ?_
                    refine ax_istore (lv' := [(7, _), (6, _), (5, _), (9, _), (8, _), (4, _), (3, _), (0, _), (1, _), (2, _)]) dX12_least_167 (by decide) rfl ?_
                    refine ax_iinc (v := _ + 1) (lv' := [(8, _), (7, _), (6, _), (5, _), (9, _), (4, _), (3, _), (0, _), (1, _), (2, _)]) dX12_least_169 rfl rfl (by decide) rfl ?_
                    have hst : mLeastT p (mA M 12 r) v (y, no, true, mm) = (0, 0, false, mm) := by unfold mLeastT; grind
                    refine ax_goto (tgt := 58) dX12_least_172 (by decide) ?_
                    rw [nI_1]
                    exact ax_loc rfl (ih (j + 1) (0) (0) false mm (by omega) (by show mLeF M r p s j (mIter (mLeF M r p s) j _) = _; rw [ha]; exact (congrArg (fun w => mLeastT p (mA M 12 r) w (y, no, true, mm)) hv).trans hst))
              · refine ax_iload dX12_least_109 rfl ?_
                refine ax_iconst (v := 1) dX12_least_111 (by decide) ?_
                refine ax_iadd dX12_least_112 ?_
                refine ax_goto (tgt := 128) dX12_least_113 (by decide) ?_
                refine ax_istore (lv' := [(6, _), (5, _), (9, _), (8, _), (7, _), (4, _), (3, _), (0, _), (1, _), (2, _)]) dX12_least_128 (by decide) rfl ?_
                refine ax_iload dX12_least_130 rfl ?_
                refine ax_if_ne (tgt := 150) dX12_least_132 (by decide) (fun _ => ?_) (fun z => absurd (by decide) z)
                refine ax_iload dX12_least_150 rfl ?_
                refine ax_if_eq (tgt := 169) dX12_least_152 (by decide) (fun z => absurd z (by decide)) (fun _ => ?_)
                refine ax_iload dX12_least_155 rfl ?_
                refine ax_aload_n (i := 0) dX12_least_157 rfl rfl rfl ?_
                refine ax_mR hm dX12_least_158 fl_X12_36 rfl (by decide) ?_
                refine ax_iload_n (i := 1) dX12_least_161 rfl rfl ?_
                refine ax_mIN (N := 16) hm dX12_least_162 rfl rfl (by decide) (by omega) ?_
                refine ax_icmp_lt (tgt := 169) dX12_least_163 (by decide) (fun c_163 => ?_) (fun c_163 => ?_)
                · refine ax_iinc (v := _ + 1) (lv' := [(8, _), (6, _), (5, _), (9, _), (7, _), (4, _), (3, _), (0, _), (1, _), (2, _)]) dX12_least_169 rfl rfl (by decide) rfl ?_
                  have hst : mLeastT p (mA M 12 r) v (y, no, true, mm) = (0, no + 1, true, mm) := by unfold mLeastT; grind
                  refine ax_goto (tgt := 58) dX12_least_172 (by decide) ?_
                  rw [nI_1]
                  exact ax_loc rfl (ih (j + 1) (0) (no + 1) true mm (by omega) (by show mLeF M r p s j (mIter (mLeF M r p s) j _) = _; rw [ha]; exact (congrArg (fun w => mLeastT p (mA M 12 r) w (y, no, true, mm)) hv).trans hst))
                · refine ax_iconst (v := 0) dX12_least_166 (by decide) ?_
                  refine ax_istore (lv' := [(7, _), (6, _), (5, _), (9, _), (8, _), (4, _), (3, _), (0, _), (1, _), (2, _)]) dX12_least_167 (by decide) rfl ?_
                  refine ax_iinc (v := _ + 1) (lv' := [(8, _), (7, _), (6, _), (5, _), (9, _), (4, _), (3, _), (0, _), (1, _), (2, _)]) dX12_least_169 rfl rfl (by decide) rfl ?_
                  have hst : mLeastT p (mA M 12 r) v (y, no, true, mm) = (0, no + 1, false, mm) := by unfold mLeastT; grind
                  refine ax_goto (tgt := 58) dX12_least_172 (by decide) ?_
                  rw [nI_1]
                  exact ax_loc rfl (ih (j + 1) (0) (no + 1) false mm (by omega) (by show mLeF M r p s j (mIter (mLeF M r p s) j _) = _; rw [ha]; exact (congrArg (fun w => mLeastT p (mA M 12 r) w (y, no, true, mm)) hv).trans hst))
          · refine ax_iload dX12_least_84 rfl ?_
            refine ax_iconst (v := 1) dX12_least_86 (by decide) ?_
            refine ax_iadd dX12_least_87 ?_
            refine ax_goto (tgt := 102) dX12_least_88 (by decide) ?_
            refine ax_istore (lv' := [(5, _), (9, _), (8, _), (7, _), (6, _), (4, _), (3, _), (0, _), (1, _), (2, _)]) dX12_least_102 (by decide) rfl ?_
            refine ax_iload dX12_least_104 rfl ?_
            refine ax_if_ne (tgt := 116) dX12_least_106 (by decide) (fun c_106 => ?_) (fun c_106 => ?_)
            · refine ax_iload dX12_least_116 rfl ?_
              refine ax_iconst (v := 1) dX12_least_118 (by decide) ?_
              refine ax_icmp_ne (tgt := 126) dX12_least_119 (by decide) (fun c_119 => ?_) (fun c_119 => ?_)
              · refine ax_iload dX12_least_126 rfl ?_
                refine ax_istore (lv' := [(6, _), (5, _), (9, _), (8, _), (7, _), (4, _), (3, _), (0, _), (1, _), (2, _)]) dX12_least_128 (by decide) rfl ?_
                refine ax_iload dX12_least_130 rfl ?_
                refine ax_if_ne (tgt := 150) dX12_least_132 (by decide) (fun _ => ?_) (fun z => absurd (by decide) z)
                refine ax_iload dX12_least_150 rfl ?_
                refine ax_if_eq (tgt := 169) dX12_least_152 (by decide) (fun z => absurd z (by decide)) (fun _ => ?_)
                refine ax_iload dX12_least_155 rfl ?_
                refine ax_aload_n (i := 0) dX12_least_157 rfl rfl rfl ?_
                refine ax_mR hm dX12_least_158 fl_X12_36 rfl (by decide) ?_
                refine ax_iload_n (i := 1) dX12_least_161 rfl rfl ?_
                refine ax_mIN (N := 16) hm dX12_least_162 rfl rfl (by decide) (by omega) ?_
                refine ax_icmp_lt (tgt := 169) dX12_least_163 (by decide) (fun c_163 => ?_) (fun c_163 => ?_)
                · refine ax_iinc (v := _ + 1) (lv' := [(8, _), (6, _), (5, _), (9, _), (7, _), (4, _), (3, _), (0, _), (1, _), (2, _)]) dX12_least_169 rfl rfl (by decide) rfl ?_
                  have hst : mLeastT p (mA M 12 r) v (y, no, true, mm) = (y + 1, no, true, mm) := by unfold mLeastT; grind
                  refine ax_goto (tgt := 58) dX12_least_172 (by decide) ?_
                  rw [nI_1]
                  exact ax_loc rfl (ih (j + 1) (y + 1) (no) true mm (by omega) (by show mLeF M r p s j (mIter (mLeF M r p s) j _) = _; rw [ha]; exact (congrArg (fun w => mLeastT p (mA M 12 r) w (y, no, true, mm)) hv).trans hst))
                · refine ax_iconst (v := 0) dX12_least_166 (by decide) ?_
                  refine ax_istore (lv' := [(7, _), (6, _), (5, _), (9, _), (8, _), (4, _), (3, _), (0, _), (1, _), (2, _)]) dX12_least_167 (by decide) rfl ?_
                  refine ax_iinc (v := _ + 1) (lv' := [(8, _), (7, _), (6, _), (5, _), (9, _), (4, _), (3, _), (0, _), (1, _), (2, _)]) dX12_least_169 rfl rfl (by decide) rfl ?_
                  have hst : mLeastT p (mA M 12 r) v (y, no, true, mm) = (y + 1, no, false, mm) := by unfold mLeastT; grind
                  refine ax_goto (tgt := 58) dX12_least_172 (by decide) ?_
                  rw [nI_1]
                  exact ax_loc rfl (ih (j + 1) (y + 1) (no) false mm (by omega) (by show mLeF M r p s j (mIter (mLeF M r p s) j _) = _; rw [ha]; exact (congrArg (fun w => mLeastT p (mA M 12 r) w (y, no, true, mm)) hv).trans hst))
              · refine ax_iconst (v := 0) dX12_least_122 (by decide) ?_
                refine ax_goto (tgt := 128) dX12_least_123 (by decide) ?_
                refine ax_istore (lv' := [(6, _), (5, _), (9, _), (8, _), (7, _), (4, _), (3, _), (0, _), (1, _), (2, _)]) dX12_least_128 (by decide) rfl ?_
                refine ax_iload dX12_least_130 rfl ?_
                refine ax_if_ne (tgt := 150) dX12_least_132 (by decide) (fun _ => ?_) (fun z => absurd (by decide) z)
                refine ax_iload dX12_least_150 rfl ?_
                refine ax_if_eq (tgt := 169) dX12_least_152 (by decide) (fun z => absurd z (by decide)) (fun _ => ?_)
                refine ax_iload dX12_least_155 rfl ?_
                refine ax_aload_n (i := 0) dX12_least_157 rfl rfl rfl ?_
                refine ax_mR hm dX12_least_158 fl_X12_36 rfl (by decide) ?_
                refine ax_iload_n (i := 1) dX12_least_161 rfl rfl ?_
                refine ax_mIN (N := 16) hm dX12_least_162 rfl rfl (by decide) (by omega) ?_
                refine ax_icmp_lt (tgt := 169) dX12_least_163 (by decide) (fun c_163 => ?_) (fun c_163 => ?_)
                · refine ax_iinc (v := _ + 1) (lv' := [(8, _), (6, _), (5, _), (9, _), (7, _), (4, _), (3, _), (0, _), (1, _), (2, _)]) dX12_least_169 rfl rfl (by decide) rfl ?_
                  have hst : mLeastT p (mA M 12 r) v (y, no, true, mm) = (y + 1, 0, true, mm) := by unfold mLeastT; grind
                  refine ax_goto (tgt := 58) dX12_least_172 (by decide) ?_
                  rw [nI_1]
                  exact ax_loc rfl (ih (j + 1) (y + 1) (0) true mm (by omega) (by show mLeF M r p s j (mIter (mLeF M r p s) j _) = _; rw [ha]; exact (congrArg (fun w => mLeastT p (mA M 12 r) w (y, no, true, mm)) hv).trans hst))
                · refine ax_iconst (v := 0) dX12_least_166 (by decide) ?_
                  refine ax_istore (lv' := [(7, _), (6, _), (5, _), (9, _), (8, _), (4, _), (3, _), (0, _), (1, _), (2, _)]) dX12_least_167 (by decide) rfl ?_
                  refine ax_iinc (v := _ + 1) (lv' := [(8, _), (7, _), (6, _), (5, _), (9, _), (4, _), (3, _), (0, _), (1, _), (2, _)]) dX12_least_169 rfl rfl (by decide) rfl ?_
                  have hst : mLeastT p (mA M 12 r) v (y, no, true, mm) = (y + 1, 0, false, mm) := by unfold mLeastT; grind
                  refine ax_goto (tgt := 58) dX12_least_172 (by decide) ?_
                  rw [nI_1]
                  exact ax_loc rfl (ih (j + 1) (y + 1) (0) false mm (by omega) (by show mLeF M r p s j (mIter (mLeF M r p s) j _) = _; rw [ha]; exact (congrArg (fun w => mLeastT p (mA M 12 r) w (y, no, true, mm)) hv).trans hst))
            · refine ax_iload dX12_least_109 rfl ?_
              refine ax_iconst (v := 1) dX12_least_111 (by decide) ?_
              refine ax_iadd dX12_least_112 ?_
              refine ax_goto (tgt := 128) dX12_least_113 (by decide) ?_
              refine ax_istore (lv' := [(6, _), (5, _), (9, _), (8, _), (7, _), (4, _), (3, _), (0, _), (1, _), (2, _)]) dX12_least_128 (by decide) rfl ?_
              refine ax_iload dX12_least_130 rfl ?_
              refine ax_if_ne (tgt := 150) dX12_least_132 (by decide) (fun _ => ?_) (fun z => absurd (by decide) z)
              refine ax_iload dX12_least_150 rfl ?_
              refine ax_if_eq (tgt := 169) dX12_least_152 (by decide) (fun z => absurd z (by decide)) (fun _ => ?_)
              refine ax_iload dX12_least_155 rfl ?_
              refine ax_aload_n (i := 0) dX12_least_157 rfl rfl rfl ?_
              refine ax_mR hm dX12_least_158 fl_X12_36 rfl (by decide) ?_
              refine ax_iload_n (i := 1) dX12_least_161 rfl rfl ?_
              refine ax_mIN (N := 16) hm dX12_least_162 rfl rfl (by decide) (by omega) ?_
              refine ax_icmp_lt (tgt := 169) dX12_least_163 (by decide) (fun c_163 => ?_) (fun c_163 => ?_)
              · refine ax_iinc (v := _ + 1) (lv' := [(8, _), (6, _), (5, _), (9, _), (7, _), (4, _), (3, _), (0, _), (1, _), (2, _)]) dX12_least_169 rfl rfl (by decide) rfl ?_
                have hst : mLeastT p (mA M 12 r) v (y, no, true, mm) = (y + 1, no + 1, true, mm) := by unfold mLeastT; grind
                refine ax_goto (tgt := 58) dX12_least_172 (by decide) ?_
                rw [nI_1]
                exact ax_loc rfl (ih (j + 1) (y + 1) (no + 1) true mm (by omega) (by show mLeF M r p s j (mIter (mLeF M r p s) j _) = _; rw [ha]; exact (congrArg (fun w => mLeastT p (mA M 12 r) w (y, no, true, mm)) hv).trans hst))
              · refine ax_iconst (v := 0) dX12_least_166 (by decide) ?_
                refine ax_istore (lv' := [(7, _), (6, _), (5, _), (9, _), (8, _), (4, _), (3, _), (0, _), (1, _), (2, _)]) dX12_least_167 (by decide) rfl ?_
                refine ax_iinc (v := _ + 1) (lv' := [(8, _), (7, _), (6, _), (5, _), (9, _), (4, _), (3, _), (0, _), (1, _), (2, _)]) dX12_least_169 rfl rfl (by decide) rfl ?_
                have hst : mLeastT p (mA M 12 r) v (y, no, true, mm) = (y + 1, no + 1, false, mm) := by unfold mLeastT; grind
                refine ax_goto (tgt := 58) dX12_least_172 (by decide) ?_
                rw [nI_1]
                exact ax_loc rfl (ih (j + 1) (y + 1) (no + 1) false mm (by omega) (by show mLeF M r p s j (mIter (mLeF M r p s) j _) = _; rw [ha]; exact (congrArg (fun w => mLeastT p (mA M 12 r) w (y, no, true, mm)) hv).trans hst))
  exact IN (mN M 1 + 1 - mE M 15 r) 0 0 0 false m0 (by omega) rfl

set_option maxHeartbeats 4000000 in
set_option maxRecDepth 100000 in
theorem t_least {b : Bool} {E : awE} {S : awS} {M : aM} {Q : Option Value → awS → Nat → Nat → Prop} (hm : mOk S) (hI : mI M) (r : Int32) (p : Int32) (h : Q (some (.int (mLeast M r p).2)) (putM S (mLeast M r p).1) 0 0) : awT b E m_X12_least [.ref (nm 13 0), .int r, .int p] (putM S M) Q := by
  refine awT.of (by decide) (by decide) (Nat.le_of_ble_eq_true rfl) ?_
  have es : mS (mT0 M) 2 = nI (mN M 2) := mS_nI hI (k := 2) (b := 16) (by decide)
  have esb : mN M 2 ≤ 16 := mS_b hI (by decide)
  refine ax_aload_n (i := 0) dX12_least_0 rfl rfl rfl ?_
  refine ax_iconst (v := 0) dX12_least_1 (by decide) ?_
  refine ax_mPS dX12_least_2 fl_X12_228 rfl rfl ?_
  refine ax_mE (M2 := mT0 M) rfl ?_
  refine ax_aload_n (i := 0) dX12_least_5 rfl rfl rfl ?_
  refine ax_iload_n (i := 1) dX12_least_6 rfl rfl ?_
  refine ax_invV (c := 13) (n := 1) (As := [_]) dX12_least_7 cb_X12_isRule cv_X12_258.1 cv_X12_258.2.1 cv_X12_258.2.2 rfl (by decide) rfl ⟨Nat.le_of_ble_eq_true rfl, Nat.le_of_ble_eq_true rfl⟩ (Nat.le_of_ble_eq_true rfl) rfl (t_isRule (fun c_7 => ?_) (fun c_7 => ?_))
  · refine ax_if_eq (tgt := 25) dX12_least_10 (by decide) (fun z => absurd z (by decide)) (fun _ => ?_)
    refine ax_iload_n (i := 2) dX12_least_13 rfl rfl ?_
    refine ax_i2l dX12_least_14 ?_
    refine ax_lconst (v := 1) dX12_least_15 (by decide) ?_
    refine ax_ldc2 dX12_least_16 kc_X12_250 ?_
    refine ax_invS (n := 3) (As := [_, _, _]) dX12_least_19 cb_X12_isIn cs_X12_242.1 cs_X12_242.2 rfl ⟨Nat.le_of_ble_eq_true rfl, Nat.le_of_ble_eq_true rfl⟩ (Nat.le_of_ble_eq_true rfl) rfl (t_isInI (lo := (1)) (hi := (10)) (fun c_19 => ?_) (fun c_19 => ?_))
    · refine ax_if_ne (tgt := 27) dX12_least_22 (by decide) (fun _ => ?_) (fun z => absurd (by decide) z)
      have e_r := rg_lt c_7.1 c_7.2 (mS_nI hI (k := 6) (b := 16) (by decide)) (Nat.lt_of_le_of_lt (mS_b hI (k := 6) (b := 16) (by decide)) (by decide))
      have e_rb : mN M 6 ≤ 16 := mS_b hI (by decide)
      have erc := hI.t0.A (k := 15) (n := 16) (b := 402) (by decide) (j := nN r) (by omega)
      rw [e_r.1]
      have L : ∀ (m k : Nat), k + m = mN M 2 → awX b E m_X12_least 32 [(4, .int (nI k)), (3, .int (nI (mIter (fun s m => mLeastS M (nN r) p s m) k 0))), (0, .ref (nm 13 0)), (1, .int (nI (nN r))), (2, .int p)] [] (putM S (mT0 M)) 0 0 Q := by
        intro m
        induction m with
        | zero =>
          intro k hm1 
          refine ax_iload dX12_least_32 rfl ?_
          refine ax_aload_n (i := 0) dX12_least_34 rfl rfl rfl ?_
          refine ax_mS dX12_least_35 fl_X12_231 rfl ?_
          refine ax_icmp_ge (tgt := 181) dX12_least_38 (by decide) (fun c_38 => ?_) (fun c_38 => ?_)
          · have hk2 : k = mN M 2 := Nat.le_antisymm (by omega) (ge_of_n es c_38 (by omega))
            subst hk2
            refine ax_iload_n (i := 3) dX12_least_181 rfl rfl ?_
            refine ax_iret dX12_least_182 rfl rfl ?_
            exact fin2 h (if_neg (fun z => z ⟨c_7, c_19⟩))
          · exact absurd (lt_of_n es c_38 (by omega)) (by omega)
        | succ m ih =>
          intro k hm1 
          refine ax_iload dX12_least_32 rfl ?_
          refine ax_aload_n (i := 0) dX12_least_34 rfl rfl rfl ?_
          refine ax_mS dX12_least_35 fl_X12_231 rfl ?_
          refine ax_icmp_ge (tgt := 181) dX12_least_38 (by decide) (fun c_38 => ?_) (fun c_38 => ?_)
          · exact absurd (ge_of_n es c_38 (by omega)) (by omega)
          · have hk2 : k < mN M 2 := lt_of_n es c_38 (by omega)
            refine ax_iconst (v := 0) dX12_least_41 (by decide) ?_
            refine ax_istore (lv' := [(5, _), (4, _), (3, _), (0, _), (1, _), (2, _)]) dX12_least_42 (by decide) rfl ?_
            refine ax_iconst (v := 0) dX12_least_44 (by decide) ?_
            refine ax_istore (lv' := [(6, _), (5, _), (4, _), (3, _), (0, _), (1, _), (2, _)]) dX12_least_45 (by decide) rfl ?_
            refine ax_iconst (v := 0) dX12_least_47 (by decide) ?_
            refine ax_istore (lv' := [(7, _), (6, _), (5, _), (4, _), (3, _), (0, _), (1, _), (2, _)]) dX12_least_48 (by decide) rfl ?_
            refine ax_aload_n (i := 0) dX12_least_50 rfl rfl rfl ?_
            refine ax_mR hm dX12_least_51 fl_X12_45 rfl (by decide) ?_
            refine ax_iload_n (i := 1) dX12_least_54 rfl rfl ?_
            refine ax_mIN (N := 16) hm dX12_least_55 rfl rfl (by decide) (by omega) ?_
            refine ax_top erc.1 ?_
            refine ax_istore (lv' := [(8, _), (7, _), (6, _), (5, _), (4, _), (3, _), (0, _), (1, _), (2, _)]) dX12_least_56 (by decide) rfl ?_
            refine ax_loc rfl (least_in hm hI.t0 (by omega) (by omega) (m0 := mIter (fun s m => mLeastS M (nN r) p s m) k 0) (fun mm hmm lv hlv => ?_))
            refine ax_loc hlv ?_
            refine ax_iinc (v := _ + 1) (lv' := [(4, _), (3, _), (0, .ref (nm 13 0)), (1, _), (2, _)]) dX12_least_175 rfl rfl (by decide) rfl ?_
            refine ax_goto (tgt := 32) dX12_least_178 (by decide) ?_
            rw [nI_1]
            exact ax_loc (by rw [show mIter (fun s m => mLeastS M (nN r) p s m) (k + 1) 0 = mm from hmm.symm]; rfl) (ih (k + 1) (by omega))
      refine ax_iconst (v := nI 0) dX12_least_27 (by decide) ?_
      refine ax_istore_n (i := 3) (lv' := [(3, _), (0, _), (1, _), (2, _)]) dX12_least_28 rfl (by decide) rfl ?_
      refine ax_iconst (v := nI 0) dX12_least_29 (by decide) ?_
      refine ax_istore (lv' := [(4, _), (3, _), (0, _), (1, _), (2, _)]) dX12_least_30 (by decide) rfl ?_
      exact ax_loc rfl (L (mN M 2) 0 (by omega))
    · refine ax_if_ne (tgt := 27) dX12_least_22 (by decide) (fun z => absurd z (by decide)) (fun _ => ?_)
      refine ax_iconst (v := -1) dX12_least_25 (by decide) ?_
      refine ax_iret dX12_least_26 rfl rfl ?_
      exact fin2 h (if_pos (fun g => c_19 g.2))
  · refine ax_if_eq (tgt := 25) dX12_least_10 (by decide) (fun _ => ?_) (fun z => absurd (by decide) z)
    refine ax_iconst (v := -1) dX12_least_25 (by decide) ?_
    refine ax_iret dX12_least_26 rfl rfl ?_
    exact fin2 h (if_pos (fun g => c_7 g.1))
