def tw (n T r s : Nat) : Nat → Nat → Nat := fun r' s' => if s' < n ∧ (r' < r ∨ (r' = r ∧ s' < s)) then T + 1 else T
theorem tw_s {n T r s : Nat} (h : s < n) : tU (tw n T r s) r s (T + 1) = tw n T r (s + 1) := by
  funext r' s'
  unfold tU tw
  by_cases c : r' = r ∧ s' = s
  · rw [if_pos c, if_pos (by omega)]
  · rw [if_neg c]
    exact if_cg (by omega)
theorem tw_r {n T r : Nat} : tw n T r n = tw n T (r + 1) 0 := by
  funext r' s'
  unfold tw
  exact if_cg (by omega)
theorem tw_0 {n T : Nat} : tw n T 0 0 = fun _ _ => T := by
  funext r' s'
  unfold tw
  exact if_neg (by omega)
theorem tw_b {n T r s : Nat} (hT : T + 1 ≤ 400) (r' s' : Nat) : tw n T r s r' s' ≤ 400 := by
  unfold tw
  by_cases c : s' < n ∧ (r' < r ∨ (r' = r ∧ s' < s))
  · rw [if_pos c]; exact hT
  · rw [if_neg c]; omega
theorem jdS.n {M N : aM} (h : jdS M N) {k : Nat} (h1 : ¬ k = 48) (h2 : ¬ k = 30) : mN N k = mN M k := congrArg Int32.toNatClampNeg (h.2 k h1 h2)
theorem jdS.tr {M N K : aM} (h : jdS M N) (h' : jdS N K) : jdS M K := ⟨h'.1, fun k a c => (h'.2 k a c).trans (h.2 k a c)⟩

set_option maxHeartbeats 1000000 in
set_option maxRecDepth 100000 in
theorem lbr_in {E : awE} {S0 : awS} {N0 : aM} {Q : Option Value → awS → Nat → Nat → Prop} {r T kc0 ks0 : Nat} (R0 : cR (tw (mN N0 2) T r 0) S0 N0) (hr : r < mN N0 6) (hT : T + 1 ≤ 400) (hC : mN N0 1 = T) (KK : ∀ (S1 : awS) (N : aM) (kc ks : Nat), mIter (fun s M => mJudge M r s (T + 1)) (mN N0 2) N0 = N → cR (tw (mN N0 2) T r (mN N0 2)) S1 N → cFm S0 S1 → kc + 4 * zz N0 ≤ kc0 + 4 * zz N → ks + 1300 * zz N0 ≤ ks0 + 1300 * zz N → awX true E m_X11_lookByRules 64 [(4, .int (nI (mN N0 2))), (3, .ref (nm 6 r)), (2, .int (nI r)), (0, .ref (nm 12 0)), (1, .int (nI (T + 1)))] [] S1 kc ks Q) : awX true E m_X11_lookByRules 28 [(4, .int (nI 0)), (3, .ref (nm 6 r)), (2, .int (nI r)), (0, .ref (nm 12 0)), (1, .int (nI (T + 1)))] [] S0 kc0 ks0 Q := by
  have hI0 := R0.mI
  have e_b := R0.nS
  have e_r := R0.nR
  have L : ∀ (m k : Nat), k + m = (mN N0 2) → ∀ (S1 : awS) (N : aM) (kc ks : Nat), mIter (fun s M => mJudge M r s (T + 1)) k N0 = N → cR (tw (mN N0 2) T r k) S1 N → cFm S0 S1 → kc + 4 * zz N0 ≤ kc0 + 4 * zz N → ks + 1300 * zz N0 ≤ ks0 + 1300 * zz N → awX true E m_X11_lookByRules 28 [(4, .int (nI k)), (3, .ref (nm 6 r)), (2, .int (nI r)), (0, .ref (nm 12 0)), (1, .int (nI (T + 1)))] [] S1 kc ks Q := by
    intro m
    induction m with
    | zero =>
      intro k hm1 S1 N kc ks e1 R1 f1 z1 z2
      have hj : jdS N0 N := by
        rw [← e1]
        exact mJudgeI_inv hI0 (by omega) (T + 1) k (by omega)
      have hn : mN N 2 = mN N0 2 := hj.n (by decide) (by decide)
      have hn6 : mN N 6 = mN N0 6 := hj.n (by decide) (by decide)
      refine ax_iload dX11_lookByRules_28 rfl ?_
      refine ax_aload_n (i := 0) dX11_lookByRules_30 rfl rfl rfl ?_
      refine ax_getR dX11_lookByRules_31 fl_X11_10 rfl rfl rfl (R1.tow.1 0 (by decide)) ?_
      refine ax_invV (c := 0) (n := 0) (As := []) dX11_lookByRules_34 cb_Jx4a65c_size_8abf5 cv_X11_75.1 cv_X11_75.2.1 cv_X11_75.2.2 rfl (by decide) rfl ⟨Nat.le_of_ble_eq_true rfl, Nat.le_of_ble_eq_true rfl⟩ (Nat.le_of_ble_eq_true rfl) rfl (t_lsSize (q := 0) (by decide) (R1.lq (by decide)) (R1.lst.1) (Nat.lt_of_le_of_lt (mS_b R1.mI (k := 2) (b := 16) (by decide)) (by decide)) ?_)
      refine ax_icmp_ge (tgt := 64) dX11_lookByRules_37 (by decide) (fun c_37 => ?_) (fun c_37 => ?_)
      · have hk2 : k = (mN N0 2) := Nat.le_antisymm (by omega) (ge_of_c (b := (mN N0 2)) rfl (hn ▸ c_37) (by omega))
        rw [hk2] at R1 e1
        rw [hk2]
        exact ax_loc rfl (KK S1 N kc ks e1 R1 f1 z1 z2)
      · exact absurd (lt_of_c (b := (mN N0 2)) rfl (hn ▸ c_37) (by omega)) (by omega)
    | succ m ih =>
      intro k hm1 S1 N kc ks e1 R1 f1 z1 z2
      have hj : jdS N0 N := by
        rw [← e1]
        exact mJudgeI_inv hI0 (by omega) (T + 1) k (by omega)
      have hn : mN N 2 = mN N0 2 := hj.n (by decide) (by decide)
      have hn6 : mN N 6 = mN N0 6 := hj.n (by decide) (by decide)
      refine ax_iload dX11_lookByRules_28 rfl ?_
      refine ax_aload_n (i := 0) dX11_lookByRules_30 rfl rfl rfl ?_
      refine ax_getR dX11_lookByRules_31 fl_X11_10 rfl rfl rfl (R1.tow.1 0 (by decide)) ?_
      refine ax_invV (c := 0) (n := 0) (As := []) dX11_lookByRules_34 cb_Jx4a65c_size_8abf5 cv_X11_75.1 cv_X11_75.2.1 cv_X11_75.2.2 rfl (by decide) rfl ⟨Nat.le_of_ble_eq_true rfl, Nat.le_of_ble_eq_true rfl⟩ (Nat.le_of_ble_eq_true rfl) rfl (t_lsSize (q := 0) (by decide) (R1.lq (by decide)) (R1.lst.1) (Nat.lt_of_le_of_lt (mS_b R1.mI (k := 2) (b := 16) (by decide)) (by decide)) ?_)
      refine ax_icmp_ge (tgt := 64) dX11_lookByRules_37 (by decide) (fun c_37 => ?_) (fun c_37 => ?_)
      · exact absurd (ge_of_c (b := (mN N0 2)) rfl (hn ▸ c_37) (by omega)) (by omega)
      · have hk2 : k < (mN N0 2) := lt_of_c (b := (mN N0 2)) rfl (hn ▸ c_37) (by omega)
        refine ax_aload_n (i := 0) dX11_lookByRules_40 rfl rfl rfl ?_
        refine ax_aload_n (i := 3) dX11_lookByRules_41 rfl rfl rfl ?_
        refine ax_aload_n (i := 0) dX11_lookByRules_42 rfl rfl rfl ?_
        refine ax_getR dX11_lookByRules_43 fl_X11_10 rfl rfl rfl (R1.tow.1 0 (by decide)) ?_
        refine ax_iload dX11_lookByRules_46 rfl ?_
        refine ax_invV (c := 0) (n := 1) (As := [_]) dX11_lookByRules_48 cb_Jx4a65c_get_915e3 cv_X11_115.1 cv_X11_115.2.1 cv_X11_115.2.2 rfl (by decide) rfl ⟨Nat.le_of_ble_eq_true rfl, Nat.le_of_ble_eq_true rfl⟩ (Nat.le_of_ble_eq_true rfl) rfl (t_lsGet (q := 0) (by decide) (R1.lq (by decide)) (R1.lst.1) (Nat.lt_of_le_of_lt (mS_b R1.mI (k := 2) (b := 16) (by decide)) (by decide)) (by omega) ?_)
        refine ax_cast (c := 9) dX11_lookByRules_51 kl_X11_79 rfl (by decide) ?_
        refine ax_iload_n (i := 1) dX11_lookByRules_54 rfl rfl ?_
        refine ax_invV (c := 12) (n := 3) (As := [_, _, _]) dX11_lookByRules_55 cb_X11_lookAt cv_X11_186.1 cv_X11_186.2.1 cv_X11_186.2.2 rfl (by decide) rfl ⟨Nat.le_of_ble_eq_true rfl, Nat.le_of_ble_eq_true rfl⟩ (Nat.le_of_ble_eq_true rfl) rfl (c_lookAt R1 (by omega) (show k < mN N 2 by omega) (if_neg (by omega)) (tw_b hT) hT (hj.n (by decide) (by decide) |>.trans hC) (fun q hq => if_pos ⟨hk2, Or.inl hq⟩) (fun S2 kc2 ks2 R2 f2 z1 z2 => ?_))
        refine ax_iinc (v := _ + 1) (lv' := [(4, _), (3, _), (2, _), (0, _), (1, _)]) dX11_lookByRules_58 rfl rfl (by decide) rfl ?_
        refine ax_goto (tgt := 28) dX11_lookByRules_61 (by decide) ?_
        rw [nI_1]
        rw [tw_s hk2] at R2
        exact ax_loc rfl (ih (k + 1) (by omega) S2 (mJudge N r k (T + 1)) _ _ (by show mJudge (mIter (fun s M => mJudge M r s (T + 1)) k N0) r k (T + 1) = _; rw [e1]) R2 (f1.tr f2) (by omega) (by omega))
  exact ax_loc rfl (L (mN N0 2) 0 (by omega) S0 N0 kc0 ks0 rfl R0 cFm.rf (by omega) (by omega))

set_option maxHeartbeats 400000 in
set_option maxRecDepth 100000 in
theorem c_lookByRules {E : awE} {S : awS} {M : aM} {Q : Option Value → awS → Nat → Nat → Prop} {T : Nat} (R : cR (fun _ _ => T) S M) (hT : T + 1 ≤ 400) (hC : mN M 1 = T) (h : ∀ (S1 : awS) (N : aM) (kc ks : Nat), mIter (fun r M => mIter (fun s M => mJudge M r s (T + 1)) (mN M 2) M) (mN M 6) M = N → cR (tw (mN M 2) T (mN M 6) 0) S1 N → cFm S S1 → kc + 4 * zz M ≤ 4 * zz N → ks + 1300 * zz M ≤ 1300 * zz N → Q none S1 kc ks) : awT true E m_X11_lookByRules [.ref (nm 12 0), .int (nI (T + 1))] S Q := by
  refine awT.of (by decide) (by decide) (Nat.le_of_ble_eq_true rfl) ?_
  have e_b := R.nR
  have L : ∀ (m k : Nat), k + m = (mN M 6) → ∀ (S1 : awS) (N : aM) (kc ks : Nat), mIter (fun r M => mIter (fun s M => mJudge M r s (T + 1)) (mN M 2) M) k M = N → cR (tw (mN M 2) T k 0) S1 N → cFm S S1 → kc + 4 * zz M ≤ 0 + 4 * zz N → ks + 1300 * zz M ≤ 0 + 1300 * zz N → awX true E m_X11_lookByRules 2 [(2, .int (nI k)), (0, .ref (nm 12 0)), (1, .int (nI (T + 1)))] [] S1 kc ks Q := by
    intro m
    induction m with
    | zero =>
      intro k hm1 S1 N kc ks e1 R1 f1 z1 z2
      have hj : jdS M N := by
        rw [← e1]
        exact mJudgeO_inv R.mI (T + 1) k (by omega)
      have hn : mN N 6 = (mN M 6) := hj.n (by decide) (by decide)
      have hn2 : mN N 2 = (mN M 2) := hj.n (by decide) (by decide)
      refine ax_iload_n (i := 2) dX11_lookByRules_2 rfl rfl ?_
      refine ax_aload_n (i := 0) dX11_lookByRules_3 rfl rfl rfl ?_
      refine ax_getR dX11_lookByRules_4 fl_X11_16 rfl rfl rfl (R1.tow.1 1 (by decide)) ?_
      refine ax_invV (c := 0) (n := 0) (As := []) dX11_lookByRules_7 cb_Jx4a65c_size_8abf5 cv_X11_75.1 cv_X11_75.2.1 cv_X11_75.2.2 rfl (by decide) rfl ⟨Nat.le_of_ble_eq_true rfl, Nat.le_of_ble_eq_true rfl⟩ (Nat.le_of_ble_eq_true rfl) rfl (t_lsSize (q := 1) (by decide) (R1.lq (by decide)) (R1.lst.2.1) (Nat.lt_of_le_of_lt (mS_b R1.mI (k := 6) (b := 16) (by decide)) (by decide)) ?_)
      refine ax_icmp_ge (tgt := 70) dX11_lookByRules_10 (by decide) (fun c_10 => ?_) (fun c_10 => ?_)
      · have hk2 : k = (mN M 6) := Nat.le_antisymm (by omega) (ge_of_c (b := (mN M 6)) rfl (hn ▸ c_10) (by omega))
        refine ax_vret dX11_lookByRules_70 rfl ?_
        rw [hk2] at R1 e1
        exact h S1 N kc ks e1 R1 f1 (by omega) (by omega)
      · exact absurd (lt_of_c (b := (mN M 6)) rfl (hn ▸ c_10) (by omega)) (by omega)
    | succ m ih =>
      intro k hm1 S1 N kc ks e1 R1 f1 z1 z2
      have hj : jdS M N := by
        rw [← e1]
        exact mJudgeO_inv R.mI (T + 1) k (by omega)
      have hn : mN N 6 = (mN M 6) := hj.n (by decide) (by decide)
      have hn2 : mN N 2 = (mN M 2) := hj.n (by decide) (by decide)
      refine ax_iload_n (i := 2) dX11_lookByRules_2 rfl rfl ?_
      refine ax_aload_n (i := 0) dX11_lookByRules_3 rfl rfl rfl ?_
      refine ax_getR dX11_lookByRules_4 fl_X11_16 rfl rfl rfl (R1.tow.1 1 (by decide)) ?_
      refine ax_invV (c := 0) (n := 0) (As := []) dX11_lookByRules_7 cb_Jx4a65c_size_8abf5 cv_X11_75.1 cv_X11_75.2.1 cv_X11_75.2.2 rfl (by decide) rfl ⟨Nat.le_of_ble_eq_true rfl, Nat.le_of_ble_eq_true rfl⟩ (Nat.le_of_ble_eq_true rfl) rfl (t_lsSize (q := 1) (by decide) (R1.lq (by decide)) (R1.lst.2.1) (Nat.lt_of_le_of_lt (mS_b R1.mI (k := 6) (b := 16) (by decide)) (by decide)) ?_)
      refine ax_icmp_ge (tgt := 70) dX11_lookByRules_10 (by decide) (fun c_10 => ?_) (fun c_10 => ?_)
      · exact absurd (ge_of_c (b := (mN M 6)) rfl (hn ▸ c_10) (by omega)) (by omega)
      · have hk2 : k < (mN M 6) := lt_of_c (b := (mN M 6)) rfl (hn ▸ c_10) (by omega)
        refine ax_aload_n (i := 0) dX11_lookByRules_13 rfl rfl rfl ?_
        refine ax_getR dX11_lookByRules_14 fl_X11_16 rfl rfl rfl (R1.tow.1 1 (by decide)) ?_
        refine ax_iload_n (i := 2) dX11_lookByRules_17 rfl rfl ?_
        refine ax_invV (c := 0) (n := 1) (As := [_]) dX11_lookByRules_18 cb_Jx4a65c_get_915e3 cv_X11_115.1 cv_X11_115.2.1 cv_X11_115.2.2 rfl (by decide) rfl ⟨Nat.le_of_ble_eq_true rfl, Nat.le_of_ble_eq_true rfl⟩ (Nat.le_of_ble_eq_true rfl) rfl (t_lsGet (q := 1) (by decide) (R1.lq (by decide)) (R1.lst.2.1) (Nat.lt_of_le_of_lt (mS_b R1.mI (k := 6) (b := 16) (by decide)) (by decide)) (by omega) ?_)
        refine ax_cast (c := 6) dX11_lookByRules_21 kl_X11_96 rfl (by decide) ?_
        refine ax_astore_n (i := 3) (lv' := [(3, _), (2, _), (0, _), (1, _)]) dX11_lookByRules_24 rfl (by decide) rfl rfl ?_
        refine ax_iconst (v := nI 0) dX11_lookByRules_25 (by decide) ?_
        refine ax_istore (lv' := [(4, _), (3, _), (2, _), (0, _), (1, _)]) dX11_lookByRules_26 (by decide) rfl ?_
        refine ax_loc rfl (lbr_in (r := k) (T := T) (by rw [hn2]; exact R1) (by omega) hT (hj.n (by decide) (by decide) |>.trans hC) (fun S2 N2 kc2 ks2 e2 R2 f2 y1 y2 => ?_))
        refine ax_iinc (v := _ + 1) (lv' := [(2, _), (4, _), (3, _), (0, _), (1, _)]) dX11_lookByRules_64 rfl rfl (by decide) rfl ?_
        refine ax_goto (tgt := 2) dX11_lookByRules_67 (by decide) ?_
        rw [nI_1]
        exact ax_loc rfl (ih (k + 1) (by omega) S2 N2 kc2 ks2 (by show mIter (fun s M => mJudge M k s (T + 1)) (mN (mIter (fun r M => mIter (fun s M => mJudge M r s (T + 1)) (mN M 2) M) k M) 2) (mIter (fun r M => mIter (fun s M => mJudge M r s (T + 1)) (mN M 2) M) k M) = _; rw [e1]; exact e2) (by rw [hn2, tw_r] at R2; exact R2) (f1.tr f2) (by omega) (by omega))
  refine ax_iconst (v := nI 0) dX11_lookByRules_0 (by decide) ?_
  refine ax_istore_n (i := 2) (lv' := [(2, _), (0, _), (1, _)]) dX11_lookByRules_1 rfl (by decide) rfl ?_
  exact ax_loc rfl (L (mN M 6) 0 (by omega) S M 0 0 rfl (by rw [tw_0]; exact R) cFm.rf (by omega) (by omega))

