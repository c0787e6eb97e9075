theorem mHoldsAll_inv {M : aM} (h : mI M) (fr : Nat) : mI (mHoldsAll M fr) ∧ ∀ k, mS (mHoldsAll M fr) k = mS M k := by
  have i0 := mReach0_inv h fr 16
  have i1 := mReachO_inv i0.1 16
  exact ⟨i1.1, fun k => (i1.2 k).trans (i0.2 k)⟩
theorem t_holdsAll2 {b : Bool} {E : awE} {S : awS} {M : aM} {Q : Option Value → awS → Nat → Nat → Prop} (hm : mOk S) {x y : Int32} (hI : mI M) (hx : x = nI (nN x) ∧ nN x < 16) (hy : y = nI (nN y) ∧ nN y < 16) (h : Q (some (.int (mA (mHoldsAll M (nN x)) 75 (nN y)))) (putM S (mHoldsAll M (nN x))) 0 0) : awT b E m_X12_holdsAll [.ref (nm 13 0), .int x, .int y] (putM S M) Q := by
  rw [hx.1, hy.1]
  exact t_holdsAll hm hI hx.2 hy.2 h

def mHoldB (M1 : aM) (r hd how : Int32) : aM × Int32 := if ¬ mA M1 75 (nN hd) = 0 then (M1, -3) else (pS (pA (pA (pA M1 22 (mN M1 21) r) 23 (mN M1 21) hd) 24 (mN M1 21) how) 21 (mS M1 21 + 1), 0)
theorem mHold_b {M : aM} {r hd how : Int32} (g : (okRule M r ∧ okRule M hd ∧ ¬ r = hd ∧ (0 ≤ how ∧ how ≤ 2))) (c : ¬ mS M 21 = 40) : mHold M r hd how = mHoldB (mHoldsAll (mT0 M) (nN r)) r hd how := by
  unfold mHold
  rw [if_neg (fun z => z g), if_neg c]
  rfl

set_option maxHeartbeats 4000000 in
set_option maxRecDepth 100000 in
theorem t_hold {b : Bool} {E : awE} {S : awS} {M : aM} {Q : Option Value → awS → Nat → Nat → Prop} (hm : mOk S) (hI : mI M) (r hd how : Int32) (h : Q (some (.int (mHold M r hd how).2)) (putM S (mHold M r hd how).1) 0 0) : awT b E m_X12_hold [.ref (nm 13 0), .int r, .int hd, .int how] (putM S M) Q := by
  refine awT.of (by decide) (by decide) (Nat.le_of_ble_eq_true rfl) ?_
  have hrb : mN M 6 ≤ 16 := mS_b hI (by decide)
  refine ax_aload_n (i := 0) dX12_hold_0 rfl rfl rfl ?_
  refine ax_iconst (v := 0) dX12_hold_1 (by decide) ?_
  refine ax_mPS dX12_hold_2 fl_X12_228 rfl rfl ?_
  refine ax_aload_n (i := 0) dX12_hold_5 rfl rfl rfl ?_
  refine ax_iload_n (i := 1) dX12_hold_6 rfl rfl ?_
  refine ax_invV (c := 13) (n := 1) (As := [_]) dX12_hold_7 cb_X12_isRule cv_X12_258.1 cv_X12_258.2.1 cv_X12_258.2.2 rfl (by decide) rfl ⟨Nat.le_of_ble_eq_true rfl, Nat.le_of_ble_eq_true rfl⟩ (Nat.le_of_ble_eq_true rfl) rfl (t_isRule (fun c_7 => ?_) (fun c_7 => ?_))
  · refine ax_if_eq (tgt := 38) dX12_hold_10 (by decide) (fun z => absurd z (by decide)) (fun _ => ?_)
    refine ax_aload_n (i := 0) dX12_hold_13 rfl rfl rfl ?_
    refine ax_iload_n (i := 2) dX12_hold_14 rfl rfl ?_
    refine ax_invV (c := 13) (n := 1) (As := [_]) dX12_hold_15 cb_X12_isRule cv_X12_258.1 cv_X12_258.2.1 cv_X12_258.2.2 rfl (by decide) rfl ⟨Nat.le_of_ble_eq_true rfl, Nat.le_of_ble_eq_true rfl⟩ (Nat.le_of_ble_eq_true rfl) rfl (t_isRule (fun c_15 => ?_) (fun c_15 => ?_))
    · refine ax_if_eq (tgt := 38) dX12_hold_18 (by decide) (fun z => absurd z (by decide)) (fun _ => ?_)
      refine ax_iload_n (i := 1) dX12_hold_21 rfl rfl ?_
      refine ax_iload_n (i := 2) dX12_hold_22 rfl rfl ?_
      refine ax_icmp_eq (tgt := 38) dX12_hold_23 (by decide) (fun c_23 => ?_) (fun c_23 => ?_)
      · refine ax_iconst (v := -1) dX12_hold_38 (by decide) ?_
        refine ax_iret dX12_hold_39 rfl rfl ?_
        exact fin2 h (if_pos (show ¬ (okRule M r ∧ okRule M hd ∧ ¬ r = hd ∧ (0 ≤ how ∧ how ≤ 2)) from fun g => g.2.2.1 c_23))
      · refine ax_iload_n (i := 3) dX12_hold_26 rfl rfl ?_
        refine ax_i2l dX12_hold_27 ?_
        refine ax_lconst (v := 0) dX12_hold_28 (by decide) ?_
        refine ax_ldc2 dX12_hold_29 kc_X12_268 ?_
        refine ax_invS (n := 3) (As := [_, _, _]) dX12_hold_32 cb_X12_isIn cs_X12_242.1 cs_X12_242.2 rfl ⟨Nat.le_of_ble_eq_true rfl, Nat.le_of_ble_eq_true rfl⟩ (Nat.le_of_ble_eq_true rfl) rfl (t_isInI (lo := (0)) (hi := (2)) (fun c_32 => ?_) (fun c_32 => ?_))
        · refine ax_if_ne (tgt := 40) dX12_hold_35 (by decide) (fun _ => ?_) (fun z => absurd (by decide) z)
          refine ax_aload_n (i := 0) dX12_hold_40 rfl rfl rfl ?_
          refine ax_mS dX12_hold_41 fl_X12_265 rfl ?_
          refine ax_bipush (v := 40) dX12_hold_44 (by decide) ?_
          refine ax_icmp_ne (tgt := 52) dX12_hold_46 (by decide) (fun c_46 => ?_) (fun c_46 => ?_)
          · refine ax_mE (M2 := mT0 M) rfl ?_
            have hx := (fun q : r = nI (nN r) ∧ nN r < mN M 6 => (⟨q.1, Nat.lt_of_lt_of_le q.2 hrb⟩ : r = nI (nN r) ∧ nN r < 16)) (rg_lt c_7.1 c_7.2 (mS_nI hI (k := 6) (b := 16) (by decide)) (Nat.lt_of_le_of_lt hrb (by decide)))
            have hy := (fun q : hd = nI (nN hd) ∧ nN hd < mN M 6 => (⟨q.1, Nat.lt_of_lt_of_le q.2 hrb⟩ : hd = nI (nN hd) ∧ nN hd < 16)) (rg_lt c_15.1 c_15.2 (mS_nI hI (k := 6) (b := 16) (by decide)) (Nat.lt_of_le_of_lt hrb (by decide)))
            refine ax_aload_n (i := 0) dX12_hold_52 rfl rfl rfl ?_
            refine ax_iload_n (i := 1) dX12_hold_53 rfl rfl ?_
            refine ax_iload_n (i := 2) dX12_hold_54 rfl rfl ?_
            refine ax_invV (c := 13) (n := 2) (As := [_, _]) dX12_hold_55 cb_X12_holdsAll cv_X12_270.1 cv_X12_270.2.1 cv_X12_270.2.2 rfl (by decide) rfl ⟨Nat.le_of_ble_eq_true rfl, Nat.le_of_ble_eq_true rfl⟩ (Nat.le_of_ble_eq_true rfl) rfl (t_holdsAll2 hm hI.t0 hx hy ?_)
            have e0 := mHold_b (M := M) (how := how) ⟨c_7, c_15, c_23, c_32⟩ c_46
            rw [e0] at h
            have hinv := mHoldsAll_inv hI.t0 (nN r)
            generalize hM1 : mHoldsAll (mT0 M) (nN r) = M1 at hinv h ⊢
            have eh : mS M1 21 = nI (mN M1 21) := mS_nI hinv.1 (b := 40) (by decide)
            have hh0 : mN M1 21 ≤ 40 := mS_b hinv.1 (by decide)
            have hh40 : mN M1 21 < 40 := Nat.lt_of_le_of_ne hh0 (fun z => c_46 ((hinv.2 21).symm.trans (eh.trans (by rw [z]; rfl))))
            refine ax_if_eq (tgt := 64) dX12_hold_58 (by decide) (fun c_58 => ?_) (fun c_58 => ?_)
            · refine ax_aload_n (i := 0) dX12_hold_64 rfl rfl rfl ?_
              refine ax_mR hm dX12_hold_65 fl_X12_65 rfl (by decide) ?_
              refine ax_aload_n (i := 0) dX12_hold_68 rfl rfl rfl ?_
              refine ax_mS dX12_hold_69 fl_X12_265 rfl ?_
              refine ax_top eh ?_
              refine ax_iload_n (i := 1) dX12_hold_72 rfl rfl ?_
              refine ax_mPIN (N := 40) hm dX12_hold_73 rfl rfl (by decide) hh40 ?_
              refine ax_aload_n (i := 0) dX12_hold_74 rfl rfl rfl ?_
              refine ax_mR hm dX12_hold_75 fl_X12_68 rfl (by decide) ?_
              refine ax_aload_n (i := 0) dX12_hold_78 rfl rfl rfl ?_
              refine ax_mS dX12_hold_79 fl_X12_265 rfl ?_
              refine ax_top eh ?_
              refine ax_iload_n (i := 2) dX12_hold_82 rfl rfl ?_
              refine ax_mPIN (N := 40) hm dX12_hold_83 rfl rfl (by decide) hh40 ?_
              refine ax_aload_n (i := 0) dX12_hold_84 rfl rfl rfl ?_
              refine ax_mR hm dX12_hold_85 fl_X12_71 rfl (by decide) ?_
              refine ax_aload_n (i := 0) dX12_hold_88 rfl rfl rfl ?_
              refine ax_mS dX12_hold_89 fl_X12_265 rfl ?_
              refine ax_top eh ?_
              refine ax_iload_n (i := 3) dX12_hold_92 rfl rfl ?_
              refine ax_mPIN (N := 40) hm dX12_hold_93 rfl rfl (by decide) hh40 ?_
              refine ax_aload_n (i := 0) dX12_hold_94 rfl rfl rfl ?_
              refine ax_dup dX12_hold_95 rfl ?_
              refine ax_mS dX12_hold_96 fl_X12_265 rfl ?_
              refine ax_iconst (v := 1) dX12_hold_99 (by decide) ?_
              refine ax_iadd dX12_hold_100 ?_
              refine ax_mPS dX12_hold_101 fl_X12_265 rfl rfl ?_
              refine ax_iconst (v := 0) dX12_hold_104 (by decide) ?_
              refine ax_iret dX12_hold_105 rfl rfl ?_
              exact fin2 h (if_neg (fun z => z c_58))
            · refine ax_bipush (v := -3) dX12_hold_61 (by decide) ?_
              refine ax_iret dX12_hold_63 rfl rfl ?_
              exact fin2 h (if_pos c_58)
          · refine ax_bipush (v := -2) dX12_hold_49 (by decide) ?_
            refine ax_iret dX12_hold_51 rfl rfl ?_
            exact fin2 h ((if_neg (show ¬ ¬ (okRule M r ∧ okRule M hd ∧ ¬ r = hd ∧ (0 ≤ how ∧ how ≤ 2)) from fun z => z ⟨c_7, c_15, c_23, c_32⟩)).trans (if_pos (Classical.not_not.mp c_46)))
        · refine ax_if_ne (tgt := 40) dX12_hold_35 (by decide) (fun z => absurd z (by decide)) (fun _ => ?_)
          refine ax_iconst (v := -1) dX12_hold_38 (by decide) ?_
          refine ax_iret dX12_hold_39 rfl rfl ?_
          exact fin2 h (if_pos (show ¬ (okRule M r ∧ okRule M hd ∧ ¬ r = hd ∧ (0 ≤ how ∧ how ≤ 2)) from fun g => c_32 g.2.2.2))
    · refine ax_if_eq (tgt := 38) dX12_hold_18 (by decide) (fun _ => ?_) (fun z => absurd (by decide) z)
      refine ax_iconst (v := -1) dX12_hold_38 (by decide) ?_
      refine ax_iret dX12_hold_39 rfl rfl ?_
      exact fin2 h (if_pos (show ¬ (okRule M r ∧ okRule M hd ∧ ¬ r = hd ∧ (0 ≤ how ∧ how ≤ 2)) from fun g => c_15 g.2.1))
  · refine ax_if_eq (tgt := 38) dX12_hold_10 (by decide) (fun _ => ?_) (fun z => absurd (by decide) z)
    refine ax_iconst (v := -1) dX12_hold_38 (by decide) ?_
    refine ax_iret dX12_hold_39 rfl rfl ?_
    exact fin2 h (if_pos (show ¬ (okRule M r ∧ okRule M hd ∧ ¬ r = hd ∧ (0 ≤ how ∧ how ≤ 2)) from fun g => c_7 g.1))
