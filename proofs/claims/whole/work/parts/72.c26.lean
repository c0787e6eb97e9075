theorem m1_lt {x : Int32} (h : -1 ≤ x) : x < 0 ↔ x = -1 := by
  have e0 : (0 : Int32).toInt = 0 := by decide
  have e1 : (-1 : Int32).toInt = -1 := by decide
  rw [Int32.le_iff_toInt_le, e1] at h
  rw [Int32.lt_iff_toInt_lt, e0]
  constructor
  · intro q
    exact Int32.toInt_inj.mp (by rw [e1]; omega)
  · intro q
    rw [q, e1]
    decide

theorem cR.fit {τ : Nat → Nat → Nat} {S : awS} {M : aM} (R : cR τ S M) {a k t : Nat} (ha : a < mN M 30) (hk : k < mN M 25) : (sI S 8 k 2 ≤ nI t ∧ nI t ≤ sI S 8 k 3 ∧ (sI S 8 k 0 = -1 ∨ sI S 8 k 0 = sI S 9 (mE M 32 a) 1) ∧ (sI S 8 k 1 = -1 ∨ sI S 8 k 1 = sI S 6 (mE M 31 a) 0)) ↔ ((mA M 26 k < 0 ∨ mA M 26 k = mA M 3 (mE M 32 a)) ∧ (mA M 27 k < 0 ∨ mA M 27 k = mA M 31 a) ∧ mA M 28 k ≤ nI t ∧ nI t ≤ mA M 29 k) := by
  have h1 := R.inv.2.2.2.2.2.2.2.2.1 k hk
  have hru : sI S 6 (mE M 31 a) 0 = mA M 31 a := (R.rul _ (R.aRu ha)).2.2.2.2.2.2.2.2.1.trans (R.mI.A (k := 31) (n := 300) (b := 16) (by decide) (Nat.lt_of_lt_of_le ha R.nA)).1.symm
  rw [(R.int (f := 8) (k := 2) (m := 28) (q := 25) (by decide) hk), (R.int (f := 8) (k := 3) (m := 29) (q := 25) (by decide) hk), (R.int (f := 8) (k := 0) (m := 26) (q := 25) (by decide) hk), (R.int (f := 8) (k := 1) (m := 27) (q := 25) (by decide) hk), (R.int (f := 9) (k := 1) (m := 3) (q := 2) (by decide) (R.aSo ha)), hru, m1_lt h1.2.1, m1_lt h1.2.2]
  exact ⟨fun z => ⟨z.2.2.1, z.2.2.2, z.1, z.2.1⟩, fun z => ⟨z.2.2.1, z.2.2.2, z.1, z.2.1⟩⟩

set_option maxHeartbeats 400000 in
set_option maxRecDepth 100000 in
theorem c_isSilenced {E : awE} {S : awS} {M : aM} {τ : Nat → Nat → Nat} {Q : Option Value → awS → Nat → Nat → Prop} (R : cR τ S M) {a t : Nat} (ha : a < mN M 30) (h1 : mSil M a t → Q (some (.int 1)) S 0 0) (h0 : ¬ mSil M a t → Q (some (.int 0)) S 0 0) : awT true E m_X11_isSilenced [.ref (nm 12 0), .ref (nm 1 a), .int (nI t)] S Q := by
  refine awT.of (by decide) (by decide) (Nat.le_of_ble_eq_true rfl) ?_
  have e_b : mN M 25 ≤ 20 := mS_b R.mI (by decide)
  have href := R.ref.1 _ ha
  have L : ∀ (m k : Nat), k + m = (mN M 25) → (∀ j, j < k → ¬ ((mA M 26 j < 0 ∨ mA M 26 j = mA M 3 (mE M 32 a)) ∧ (mA M 27 j < 0 ∨ mA M 27 j = mA M 31 a) ∧ mA M 28 j ≤ nI t ∧ nI t ≤ mA M 29 j)) → awX true E m_X11_isSilenced 2 [(3, .int (nI k)), (0, .ref (nm 12 0)), (1, .ref (nm 1 a)), (2, .int (nI t))] [] S 0 0 Q := by
    intro m
    induction m with
    | zero =>
      intro k hm1 hno
      refine ax_iload_n (i := 3) dX11_isSilenced_2 rfl rfl ?_
      refine ax_aload_n (i := 0) dX11_isSilenced_3 rfl rfl rfl ?_
      refine ax_getR dX11_isSilenced_4 fl_X11_19 rfl rfl rfl (R.tow.1 2 (by decide)) ?_
      refine ax_invV (c := 0) (n := 0) (As := []) dX11_isSilenced_7 cb_Jx4a65c_size_8abf5 cv_X11_75.1 cv_X11_75.2.1 cv_X11_75.2.2 rfl (by decide) rfl ⟨Nat.le_of_ble_eq_true rfl, Nat.le_of_ble_eq_true rfl⟩ (Nat.le_of_ble_eq_true rfl) rfl (t_lsSize (q := 2) (by decide) (R.lq (by decide)) (R.lst.2.2.1) (Nat.lt_of_le_of_lt (mS_b R.mI (k := 25) (b := 20) (by decide)) (by decide)) ?_)
      refine ax_icmp_ge (tgt := 40) dX11_isSilenced_10 (by decide) (fun c_10 => ?_) (fun c_10 => ?_)
      · have hk2 : k = (mN M 25) := Nat.le_antisymm (by omega) (ge_of_c (b := (mN M 25)) rfl c_10 (by omega))
        refine ax_iconst (v := 0) dX11_isSilenced_40 (by decide) ?_
        refine ax_iret dX11_isSilenced_41 rfl rfl ?_
        exact h0 (fun z => z.elim (fun j w => hno j (by omega) w.2))
      · exact absurd (lt_of_c (b := (mN M 25)) rfl c_10 (by omega)) (by omega)
    | succ m ih =>
      intro k hm1 hno
      refine ax_iload_n (i := 3) dX11_isSilenced_2 rfl rfl ?_
      refine ax_aload_n (i := 0) dX11_isSilenced_3 rfl rfl rfl ?_
      refine ax_getR dX11_isSilenced_4 fl_X11_19 rfl rfl rfl (R.tow.1 2 (by decide)) ?_
      refine ax_invV (c := 0) (n := 0) (As := []) dX11_isSilenced_7 cb_Jx4a65c_size_8abf5 cv_X11_75.1 cv_X11_75.2.1 cv_X11_75.2.2 rfl (by decide) rfl ⟨Nat.le_of_ble_eq_true rfl, Nat.le_of_ble_eq_true rfl⟩ (Nat.le_of_ble_eq_true rfl) rfl (t_lsSize (q := 2) (by decide) (R.lq (by decide)) (R.lst.2.2.1) (Nat.lt_of_le_of_lt (mS_b R.mI (k := 25) (b := 20) (by decide)) (by decide)) ?_)
      refine ax_icmp_ge (tgt := 40) dX11_isSilenced_10 (by decide) (fun c_10 => ?_) (fun c_10 => ?_)
      · exact absurd (ge_of_c (b := (mN M 25)) rfl c_10 (by omega)) (by omega)
      · have hk2 : k < (mN M 25) := lt_of_c (b := (mN M 25)) rfl c_10 (by omega)
        refine ax_aload_n (i := 0) dX11_isSilenced_13 rfl rfl rfl ?_
        refine ax_getR dX11_isSilenced_14 fl_X11_19 rfl rfl rfl (R.tow.1 2 (by decide)) ?_
        refine ax_iload_n (i := 3) dX11_isSilenced_17 rfl rfl ?_
        refine ax_invV (c := 0) (n := 1) (As := [_]) dX11_isSilenced_18 cb_Jx4a65c_get_915e3 cv_X11_115.1 cv_X11_115.2.1 cv_X11_115.2.2 rfl (by decide) rfl ⟨Nat.le_of_ble_eq_true rfl, Nat.le_of_ble_eq_true rfl⟩ (Nat.le_of_ble_eq_true rfl) rfl (t_lsGet (q := 2) (by decide) (R.lq (by decide)) (R.lst.2.2.1) (Nat.lt_of_le_of_lt (mS_b R.mI (k := 25) (b := 20) (by decide)) (by decide)) (by omega) ?_)
        refine ax_cast (c := 8) dX11_isSilenced_21 kl_X11_128 rfl (by decide) ?_
        refine ax_aload_n (i := 1) dX11_isSilenced_24 rfl rfl rfl ?_
        refine ax_iload_n (i := 2) dX11_isSilenced_25 rfl rfl ?_
        refine ax_invV (c := 8) (n := 2) (As := [_, _]) dX11_isSilenced_26 cb_X7_fits cv_X11_310.1 cv_X11_310.2.1 cv_X11_310.2.2 rfl (by decide) rfl ⟨Nat.le_of_ble_eq_true rfl, Nat.le_of_ble_eq_true rfl⟩ (Nat.le_of_ble_eq_true rfl) rfl (c_fits href.1 href.2.1 (fun c_26 => ?_) (fun c_26 => ?_))
        · refine ax_if_eq (tgt := 34) dX11_isSilenced_29 (by decide) (fun z => absurd z (by decide)) (fun _ => ?_)
          refine ax_iconst (v := 1) dX11_isSilenced_32 (by decide) ?_
          refine ax_iret dX11_isSilenced_33 rfl rfl ?_
          exact h1 ⟨k, hk2, (R.fit ha hk2).mp c_26⟩
        · refine ax_if_eq (tgt := 34) dX11_isSilenced_29 (by decide) (fun _ => ?_) (fun z => absurd (by decide) z)
          refine ax_iinc (v := _ + 1) (lv' := [(3, _), (0, _), (1, _), (2, _)]) dX11_isSilenced_34 rfl rfl (by decide) rfl ?_
          refine ax_goto (tgt := 2) dX11_isSilenced_37 (by decide) ?_
          rw [nI_1]
          exact ax_loc rfl (ih (k + 1) (by omega) (lt_succ_c hno (fun z => c_26 ((R.fit ha hk2).mpr z))))
  refine ax_iconst (v := nI 0) dX11_isSilenced_0 (by decide) ?_
  refine ax_istore_n (i := 3) (lv' := [(3, _), (0, _), (1, _), (2, _)]) dX11_isSilenced_1 rfl (by decide) rfl ?_
  exact ax_loc rfl (L (mN M 25) 0 (by omega) (fun j hj => absurd hj (Nat.not_lt_zero j)))
