theorem dn1 (a b : Int32) : a - b + 1 = a + 1 - b := by
  rw [Int32.sub_eq_add_neg, Int32.sub_eq_add_neg, Int32.add_assoc, Int32.add_comm (-b) 1, ← Int32.add_assoc]
theorem dnt {t m : Nat} (ht : t ≤ 400) (hm : m ≤ 400) : (nI (t + 1) - nI m).toInt = (t : Int) + 1 - m := by
  rw [pk_sub_toInt (by omega) (by omega)]
  omega
theorem dnS {t m : Nat} (ht : t ≤ 400) (hm : m + 1 ≤ 400) : nI (t + 1) - nI (m + 1) + 1 = nI (t + 1) - nI m := by
  refine Int32.toInt_inj.mp ?_
  rw [dn1, nI_1, dnt ht (by omega), pk_sub_toInt (by omega) (by omega)]
  omega
theorem dn_gt {t m : Nat} (ht : t ≤ 400) (hm : m ≤ 400) : nI t < nI (t + 1) - nI m ↔ m = 0 := by
  rw [Int32.lt_iff_toInt_lt, dnt ht hm, nI_toInt (by omega)]
  omega
theorem dn_has {t m : Nat} (ht : t ≤ 400) (hm : m + 1 ≤ 400) : (nI (t + 1) - nI (m + 1) = nI (t - m) ∧ t - m ≤ 400) ∨ (nI (t + 1) - nI (m + 1) ≤ 0 ∧ t - m = 0) := by
  by_cases c : m ≤ t
  · refine Or.inl ⟨?_, by omega⟩
    rw [pk_sub (by omega), show t + 1 - (m + 1) = t - m by omega]
  · refine Or.inr ⟨?_, by omega⟩
    rw [Int32.le_iff_toInt_le, dnt ht hm]
    have e : (0 : Int32).toInt = 0 := by decide
    omega
theorem mCnt_z (M : aM) (s : Nat) (ab : Prop) (th : Int64) (n : Nat) : mCnt M s ab th 0 n = 0 := by cases n <;> rfl
theorem mCnt_up (M : aM) (s : Nat) (ab : Prop) (th : Int64) {t w m : Nat} (hm : m < w) : mCnt M s ab th (t - m) (w - m) = mCnt M s ab th (t - (m + 1)) (w - (m + 1)) + iC (mHas M s (t - m) ∧ (ab → th < mVal M s (t - m))) 1 0 := by
  obtain ⟨j, hj⟩ : ∃ j, w - m = j + 1 := ⟨w - m - 1, by omega⟩
  rw [hj, show w - (m + 1) = j by omega]
  by_cases c : m < t
  · obtain ⟨k, hk⟩ : ∃ k, t - m = k + 1 := ⟨t - m - 1, by omega⟩
    rw [hk, show t - (m + 1) = k by omega]
    rfl
  · rw [show t - m = 0 by omega, show t - (m + 1) = 0 by omega, mCnt_z, mCnt_z, iC_f (fun z => absurd z.1.1 (Nat.lt_irrefl 0))]
theorem mCnt_mo (M : aM) (s : Nat) (ab : Prop) (th : Int64) (t w : Nat) : ∀ m, m ≤ w → mCnt M s ab th (t - m) (w - m) ≤ mCnt M s ab th t w
  | 0, _ => Nat.le_refl _
  | m + 1, h => by
    have q := mCnt_mo M s ab th t w m (by omega)
    rw [mCnt_up M s ab th (show m < w by omega)] at q
    omega

theorem mCnt_n0 (M : aM) (s : Nat) (ab : Prop) (th : Int64) : ∀ t, mCnt M s ab th t 0 = 0
  | 0 => rfl
  | _ + 1 => rfl

set_option maxHeartbeats 400000 in
set_option maxRecDepth 100000 in
theorem c_isSilentIn0 {E : awE} {S : awS} {Q : Option Value → awS → Nat → Nat → Prop} {M : aM} {i w t : Nat} {x1 : Int32} (hx1 : x1 = nI (t + 1) - nI w) (hs : srcOk S i) (hv : cVal S M) (hi : i < mN M 2) (ht : t ≤ 400) (hw : w ≤ 400) (h1 : mCnt M i False 0 t w = 0 → Q (some (.int 1)) S 0 0) (h0 : ¬ mCnt M i False 0 t w = 0 → Q (some (.int 0)) S 0 0) : awT true E m_X8_isSilentIn [.ref (nm 9 i), .int x1, .int (nI t)] S Q := by
  refine awT.of (by decide) (by decide) (Nat.le_of_ble_eq_true rfl) ?_
  have L : ∀ m, m ≤ w → mCnt M i False 0 (t - m) (w - m) = 0 → awX true E m_X8_isSilentIn 2 [(3, .int (nI (t + 1) - nI m)), (0, .ref (nm 9 i)), (1, .int x1), (2, .int (nI t))] [] S 0 0 Q := by
    intro m
    induction m with
    | zero =>
      intro hm hc
      refine ax_iload_n (i := 3) dX8_isSilentIn_2 rfl rfl ?_
      refine ax_iload_n (i := 2) dX8_isSilentIn_3 rfl rfl ?_
      refine ax_icmp_gt (tgt := 23) dX8_isSilentIn_4 (by decide) (fun c_4 => ?_) (fun c_4 => ?_)
      · refine ax_iconst (v := 1) dX8_isSilentIn_23 (by decide) ?_
        refine ax_iret dX8_isSilentIn_24 rfl rfl ?_
        exact h1 (by rw [← hc]; rfl)
      · exact absurd ((dn_gt ht (by omega)).mpr rfl) c_4
    | succ m ih =>
      intro hm hc
      refine ax_iload_n (i := 3) dX8_isSilentIn_2 rfl rfl ?_
      refine ax_iload_n (i := 2) dX8_isSilentIn_3 rfl rfl ?_
      refine ax_icmp_gt (tgt := 23) dX8_isSilentIn_4 (by decide) (fun c_4 => ?_) (fun c_4 => ?_)
      · exact absurd ((dn_gt ht (by omega)).mp c_4) (by omega)
      · refine ax_aload_n (i := 0) dX8_isSilentIn_7 rfl rfl rfl ?_
        refine ax_iload_n (i := 3) dX8_isSilentIn_8 rfl rfl ?_
        refine ax_invV (c := 9) (n := 1) (As := [_]) dX8_isSilentIn_9 cb_X8_hasAt cv_X8_26.1 cv_X8_26.2.1 cv_X8_26.2.2 rfl (by decide) rfl ⟨Nat.le_of_ble_eq_true rfl, Nat.le_of_ble_eq_true rfl⟩ (Nat.le_of_ble_eq_true rfl) rfl (c_hasAt (n := t - m) hs (dn_has ht (by omega)) (fun c_9 => ?_) (fun c_9 => ?_))
        · refine ax_if_eq (tgt := 17) dX8_isSilentIn_12 (by decide) (fun z => absurd z (by decide)) (fun _ => ?_)
          refine ax_iconst (v := 0) dX8_isSilentIn_15 (by decide) ?_
          refine ax_iret dX8_isSilentIn_16 rfl rfl ?_
          refine h0 (fun z => ?_)
          have q := mCnt_mo M i False 0 t w m (by omega)
          rw [mCnt_up M i False 0 (show m < w by omega), iC_t ⟨(hv.has hi (by omega)).mp c_9, fun z => z.elim⟩, z] at q
          omega
        · refine ax_if_eq (tgt := 17) dX8_isSilentIn_12 (by decide) (fun _ => ?_) (fun z => absurd (by decide) z)
          have hn : ¬ (mHas M i (t - m)) := fun z => c_9 ((hv.has hi (by omega)).mpr z)
          refine ax_iinc (v := _ + 1) (lv' := [(3, _), (0, _), (1, _), (2, _)]) dX8_isSilentIn_17 rfl rfl (by decide) rfl ?_
          refine ax_goto (tgt := 2) dX8_isSilentIn_20 (by decide) ?_
          rw [dnS ht (by omega)]
          exact ax_loc rfl (ih (by omega) (by rw [mCnt_up M i False 0 (show m < w by omega), hc, iC_f (fun z => hn z.1)]))
  refine ax_iload_n (i := 1) dX8_isSilentIn_0 rfl rfl ?_
  refine ax_istore_n (i := 3) (lv' := [(3, _), (0, _), (1, _), (2, _)]) dX8_isSilentIn_1 rfl (by decide) rfl ?_
  have L2 := L w (Nat.le_refl w) (by rw [Nat.sub_self]; exact mCnt_n0 M i False 0 (t - w))
  rw [← hx1] at L2
  exact ax_loc rfl L2
set_option maxHeartbeats 400000 in
set_option maxRecDepth 100000 in
theorem c_isPartAbove {E : awE} {S : awS} {Q : Option Value → awS → Nat → Nat → Prop} {M : aM} {r i t n : Nat} (hs : srcOk S i) (hv : cVal S M) (hi : i < mN M 2) (ht : t ≤ 400) (hw : n ≤ 400) (h1 : sI S 6 r 3 * nI (mCnt M i False 0 t n) ≤ 100 * nI (mCnt M i True (sL S 6 r 2) t n) → Q (some (.int 1)) S 0 0) (h0 : ¬ sI S 6 r 3 * nI (mCnt M i False 0 t n) ≤ 100 * nI (mCnt M i True (sL S 6 r 2) t n) → Q (some (.int 0)) S 0 0) : awT true E m_X5_isPartAbove [.ref (nm 6 r), .ref (nm 9 i), .int (nI t), .int (nI n)] S Q := by
  refine awT.of (by decide) (by decide) (Nat.le_of_ble_eq_true rfl) ?_
  have L : ∀ m, m ≤ n → awX true E m_X5_isPartAbove 13 [(6, .int (nI (t + 1) - nI m)), (5, .int (nI (mCnt M i True (sL S 6 r 2) (t - m) (n - m)))), (4, .int (nI (mCnt M i False 0 (t - m) (n - m)))), (0, .ref (nm 6 r)), (1, .ref (nm 9 i)), (2, .int (nI t)), (3, .int (nI n))] [] S 0 0 Q := by
    intro m
    induction m with
    | zero =>
      intro hm
      refine ax_iload dX5_isPartAbove_13 rfl ?_
      refine ax_iload_n (i := 2) dX5_isPartAbove_15 rfl rfl ?_
      refine ax_icmp_gt (tgt := 64) dX5_isPartAbove_16 (by decide) (fun c_16 => ?_) (fun c_16 => ?_)
      · refine ax_bipush (v := 100) dX5_isPartAbove_64 (by decide) ?_
        refine ax_iload dX5_isPartAbove_66 rfl ?_
        refine ax_imul dX5_isPartAbove_68 ?_
        refine ax_aload_n (i := 0) dX5_isPartAbove_69 rfl rfl rfl ?_
        refine ax_getI dX5_isPartAbove_70 fl_X5_42 rfl rfl rfl ?_
        refine ax_iload dX5_isPartAbove_73 rfl ?_
        refine ax_imul dX5_isPartAbove_75 ?_
        refine ax_icmp_lt (tgt := 83) dX5_isPartAbove_76 (by decide) (fun c_76 => ?_) (fun c_76 => ?_)
        · refine ax_iconst (v := 0) dX5_isPartAbove_83 (by decide) ?_
          refine ax_iret dX5_isPartAbove_84 rfl rfl ?_
          exact h0 (fun z => absurd c_76 (Int32.not_lt.mpr z))
        · refine ax_iconst (v := 1) dX5_isPartAbove_79 (by decide) ?_
          refine ax_goto (tgt := 84) dX5_isPartAbove_80 (by decide) ?_
          refine ax_iret dX5_isPartAbove_84 rfl rfl ?_
          exact h1 (Int32.not_lt.mp c_76)
      · exact absurd ((dn_gt ht (by omega)).mpr rfl) c_16
    | succ m ih =>
      intro hm
      refine ax_iload dX5_isPartAbove_13 rfl ?_
      refine ax_iload_n (i := 2) dX5_isPartAbove_15 rfl rfl ?_
      refine ax_icmp_gt (tgt := 64) dX5_isPartAbove_16 (by decide) (fun c_16 => ?_) (fun c_16 => ?_)
      · exact absurd ((dn_gt ht (by omega)).mp c_16) (by omega)
      · refine ax_aload_n (i := 1) dX5_isPartAbove_19 rfl rfl rfl ?_
        refine ax_iload dX5_isPartAbove_20 rfl ?_
        refine ax_invV (c := 9) (n := 1) (As := [_]) dX5_isPartAbove_22 cb_X8_hasAt cv_X5_69.1 cv_X5_69.2.1 cv_X5_69.2.2 rfl (by decide) rfl ⟨Nat.le_of_ble_eq_true rfl, Nat.le_of_ble_eq_true rfl⟩ (Nat.le_of_ble_eq_true rfl) rfl (c_hasAt (n := t - m) hs (dn_has ht (by omega)) (fun c_22 => ?_) (fun c_22 => ?_))
        · refine ax_if_eq (tgt := 58) dX5_isPartAbove_25 (by decide) (fun z => absurd z (by decide)) (fun _ => ?_)
          refine ax_iinc (v := _ + 1) (lv' := [(4, _), (6, _), (5, _), (0, _), (1, _), (2, _), (3, _)]) dX5_isPartAbove_28 rfl rfl (by decide) rfl ?_
          refine ax_iload dX5_isPartAbove_31 rfl ?_
          refine ax_aload_n (i := 1) dX5_isPartAbove_33 rfl rfl rfl ?_
          refine ax_iload dX5_isPartAbove_34 rfl ?_
          refine ax_invV (c := 9) (n := 1) (As := [_]) dX5_isPartAbove_36 cb_X8_at cv_X5_73.1 cv_X5_73.2.1 cv_X5_73.2.2 rfl (by decide) rfl ⟨Nat.le_of_ble_eq_true rfl, Nat.le_of_ble_eq_true rfl⟩ (Nat.le_of_ble_eq_true rfl) rfl (c_at (n := t - m) hs (dn_has ht (by omega)) (fun _ => ?_) (fun z => absurd c_22 z))
          refine ax_aload_n (i := 0) dX5_isPartAbove_39 rfl rfl rfl ?_
          refine ax_getL dX5_isPartAbove_40 fl_X5_38 rfl rfl rfl ?_
          refine ax_lcmp dX5_isPartAbove_43 ?_
          refine ax_if_le (tgt := 51) dX5_isPartAbove_44 (by decide) (fun c_44 => ?_) (fun c_44 => ?_)
          · refine ax_iconst (v := 0) dX5_isPartAbove_51 (by decide) ?_
            refine ax_invSN (n := 1) (As := [_]) dX5_isPartAbove_52 cb_X11_bit (host := "AlarmTower") (by decide) cn_X5_65 rfl ⟨Nat.le_of_ble_eq_true rfl, Nat.le_of_ble_eq_true rfl⟩ (Nat.le_of_ble_eq_true rfl) rfl (c_bit0 ?_)
            refine ax_iadd dX5_isPartAbove_55 ?_
            refine ax_istore (lv' := [(5, _), (4, _), (6, _), (0, _), (1, _), (2, _), (3, _)]) dX5_isPartAbove_56 (by decide) rfl ?_
            have hh : mHas M i (t - m) := (hv.has hi (by omega)).mp c_22
            have ev : sL S 16 i (t - m) = mVal M i (t - m) := (hv i hi (t - m) (by omega)).2
            rw [ev] at c_44
            have ea : (mCnt M i False 0 (t - m) (n - m)) = (mCnt M i False 0 (t - (m + 1)) (n - (m + 1))) + 1 := by rw [mCnt_up M i False 0 (show m < n by omega), iC_t ⟨hh, fun z => z.elim⟩]
            have eb : (mCnt M i True (sL S 6 r 2) (t - m) (n - m)) = (mCnt M i True (sL S 6 r 2) (t - (m + 1)) (n - (m + 1))) := by rw [mCnt_up M i True (sL S 6 r 2) (show m < n by omega), iC_f (fun z => absurd ((lg_cmp_gt _ _).mpr (z.2 trivial)) (Int32.not_lt.mpr c_44))]; omega
            refine ax_iinc (v := _ + 1) (lv' := [(6, _), (5, _), (4, _), (0, _), (1, _), (2, _), (3, _)]) dX5_isPartAbove_58 rfl rfl (by decide) rfl ?_
            refine ax_goto (tgt := 13) dX5_isPartAbove_61 (by decide) ?_
            rw [dnS ht (by omega)]
            have q := ih (by omega)
            rw [ea, eb] at q
            simp only [← nI_1] at q ⊢
            simp only [Int32.add_zero]
            exact ax_loc rfl q
          · refine ax_iconst (v := 1) dX5_isPartAbove_47 (by decide) ?_
            refine ax_goto (tgt := 52) dX5_isPartAbove_48 (by decide) ?_
            refine ax_invSN (n := 1) (As := [_]) dX5_isPartAbove_52 cb_X11_bit (host := "AlarmTower") (by decide) cn_X5_65 rfl ⟨Nat.le_of_ble_eq_true rfl, Nat.le_of_ble_eq_true rfl⟩ (Nat.le_of_ble_eq_true rfl) rfl (c_bit1 ?_)
            refine ax_iadd1 dX5_isPartAbove_55 ?_
            refine ax_istore (lv' := [(5, _), (4, _), (6, _), (0, _), (1, _), (2, _), (3, _)]) dX5_isPartAbove_56 (by decide) rfl ?_
            have hh : mHas M i (t - m) := (hv.has hi (by omega)).mp c_22
            have ev : sL S 16 i (t - m) = mVal M i (t - m) := (hv i hi (t - m) (by omega)).2
            rw [ev] at c_44
            have ea : (mCnt M i False 0 (t - m) (n - m)) = (mCnt M i False 0 (t - (m + 1)) (n - (m + 1))) + 1 := by rw [mCnt_up M i False 0 (show m < n by omega), iC_t ⟨hh, fun z => z.elim⟩]
            have eb : (mCnt M i True (sL S 6 r 2) (t - m) (n - m)) = (mCnt M i True (sL S 6 r 2) (t - (m + 1)) (n - (m + 1))) + 1 := by rw [mCnt_up M i True (sL S 6 r 2) (show m < n by omega), iC_t ⟨hh, fun _ => (lg_cmp_gt _ _).mp (Int32.not_le.mp c_44)⟩]
            refine ax_iinc (v := _ + 1) (lv' := [(6, _), (5, _), (4, _), (0, _), (1, _), (2, _), (3, _)]) dX5_isPartAbove_58 rfl rfl (by decide) rfl ?_
            refine ax_goto (tgt := 13) dX5_isPartAbove_61 (by decide) ?_
            rw [dnS ht (by omega)]
            have q := ih (by omega)
            rw [ea, eb] at q
            simp only [← nI_1] at q ⊢
            exact ax_loc rfl q
        · refine ax_if_eq (tgt := 58) dX5_isPartAbove_25 (by decide) (fun _ => ?_) (fun z => absurd (by decide) z)
          have hn : ¬ (mHas M i (t - m)) := fun z => c_22 ((hv.has hi (by omega)).mpr z)
          have ea : (mCnt M i False 0 (t - m) (n - m)) = (mCnt M i False 0 (t - (m + 1)) (n - (m + 1))) := by rw [mCnt_up M i False 0 (show m < n by omega), iC_f (fun z => hn z.1)]; omega
          have eb : (mCnt M i True (sL S 6 r 2) (t - m) (n - m)) = (mCnt M i True (sL S 6 r 2) (t - (m + 1)) (n - (m + 1))) := by rw [mCnt_up M i True (sL S 6 r 2) (show m < n by omega), iC_f (fun z => hn z.1)]; omega
          refine ax_iinc (v := _ + 1) (lv' := [(6, _), (5, _), (4, _), (0, _), (1, _), (2, _), (3, _)]) dX5_isPartAbove_58 rfl rfl (by decide) rfl ?_
          refine ax_goto (tgt := 13) dX5_isPartAbove_61 (by decide) ?_
          rw [dnS ht (by omega)]
          have q := ih (by omega)
          rw [ea, eb] at q
          exact ax_loc rfl q
  refine ax_iconst (v := nI 0) dX5_isPartAbove_0 (by decide) ?_
  refine ax_istore (lv' := [(4, _), (0, _), (1, _), (2, _), (3, _)]) dX5_isPartAbove_1 (by decide) rfl ?_
  refine ax_iconst (v := nI 0) dX5_isPartAbove_3 (by decide) ?_
  refine ax_istore (lv' := [(5, _), (4, _), (0, _), (1, _), (2, _), (3, _)]) dX5_isPartAbove_4 (by decide) rfl ?_
  refine ax_iload_n (i := 2) dX5_isPartAbove_6 rfl rfl ?_
  refine ax_iload_n (i := 3) dX5_isPartAbove_7 rfl rfl ?_
  refine ax_isub dX5_isPartAbove_8 ?_
  refine ax_iconst (v := 1) dX5_isPartAbove_9 (by decide) ?_
  refine ax_iadd dX5_isPartAbove_10 ?_
  refine ax_istore (lv' := [(6, _), (5, _), (4, _), (0, _), (1, _), (2, _), (3, _)]) dX5_isPartAbove_11 (by decide) rfl ?_
  have q := L n (Nat.le_refl n)
  rw [show (mCnt M i False 0 (t - n) (n - n)) = 0 from by rw [Nat.sub_self]; exact mCnt_n0 M i False 0 (t - n), show (mCnt M i True (sL S 6 r 2) (t - n) (n - n)) = 0 from by rw [Nat.sub_self]; exact mCnt_n0 M i True (sL S 6 r 2) (t - n)] at q
  rw [dn1, nI_1]
  exact ax_loc rfl q
