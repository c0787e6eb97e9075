set_option maxHeartbeats 400000 in
set_option maxRecDepth 100000 in
theorem c_isHeldOver {E : awE} {S : awS} {M : aM} {τ : Nat → Nat → Nat} {Q : Option Value → awS → Nat → Nat → Prop} (R : cR τ S M) {r h : Nat} (hh : h < mN M 6) (h1 : hBit (rcO S (mN M 6) ((1 : Int32) <<< (nI r &&& 31)) (mN M 6)) h → Q (some (.int 1)) S 0 0) (h0 : ¬ hBit (rcO S (mN M 6) ((1 : Int32) <<< (nI r &&& 31)) (mN M 6)) h → Q (some (.int 0)) S 0 0) : awT true E m_X11_isHeldOver [.ref (nm 12 0), .int (nI r), .int (nI h)] S Q := by
  refine awT.of (by decide) (by decide) (Nat.le_of_ble_eq_true rfl) ?_
  have e_b := R.nR
  have L : ∀ (m k : Nat), k + m = (mN M 6) → awX true E m_X11_isHeldOver 7 [(4, .int (nI k)), (3, .int (rcO S (mN M 6) ((1 : Int32) <<< (nI r &&& 31)) k)), (0, .ref (nm 12 0)), (1, .int (nI r)), (2, .int (nI h))] [] S 0 0 Q := by
    intro m
    induction m with
    | zero =>
      intro k hm1 
      refine ax_iload dX11_isHeldOver_7 rfl ?_
      refine ax_aload_n (i := 0) dX11_isHeldOver_9 rfl rfl rfl ?_
      refine ax_getR dX11_isHeldOver_10 fl_X11_16 rfl rfl rfl (R.tow.1 1 (by decide)) ?_
      refine ax_invV (c := 0) (n := 0) (As := []) dX11_isHeldOver_13 cb_Jx4a65c_size_8abf5 cv_X11_75.1 cv_X11_75.2.1 cv_X11_75.2.2 rfl (by decide) rfl ⟨Nat.le_of_ble_eq_true rfl, Nat.le_of_ble_eq_true rfl⟩ (Nat.le_of_ble_eq_true rfl) rfl (t_lsSize (q := 1) (by decide) (R.lq (by decide)) (R.lst.2.1) (Nat.lt_of_le_of_lt (mS_b R.mI (k := 6) (b := 16) (by decide)) (by decide)) ?_)
      refine ax_icmp_ge (tgt := 74) dX11_isHeldOver_16 (by decide) (fun c_16 => ?_) (fun c_16 => ?_)
      · have hk2 : k = (mN M 6) := Nat.le_antisymm (by omega) (ge_of_c (b := (mN M 6)) rfl c_16 (by omega))
        refine ax_iload_n (i := 3) dX11_isHeldOver_74 rfl rfl ?_
        refine ax_iload_n (i := 2) dX11_isHeldOver_75 rfl rfl ?_
        refine ax_ishr dX11_isHeldOver_76 ?_
        refine ax_iconst (v := 1) dX11_isHeldOver_77 (by decide) ?_
        refine ax_iand dX11_isHeldOver_78 ?_
        refine ax_iconst (v := 1) dX11_isHeldOver_79 (by decide) ?_
        refine ax_icmp_ne (tgt := 87) dX11_isHeldOver_80 (by decide) (fun c_80 => ?_) (fun c_80 => ?_)
        · refine ax_iconst (v := 0) dX11_isHeldOver_87 (by decide) ?_
          refine ax_iret dX11_isHeldOver_88 rfl rfl ?_
          rw [hk2] at c_80
          exact h0 (fun z => c_80 ((hBit_iff (by omega)).mpr z))
        · refine ax_iconst (v := 1) dX11_isHeldOver_83 (by decide) ?_
          refine ax_goto (tgt := 88) dX11_isHeldOver_84 (by decide) ?_
          refine ax_iret dX11_isHeldOver_88 rfl rfl ?_
          rw [hk2] at c_80
          exact h1 ((hBit_iff (by omega)).mp (Classical.not_not.mp c_80))
      · exact absurd (lt_of_c (b := (mN M 6)) rfl c_16 (by omega)) (by omega)
    | succ m ih =>
      intro k hm1 
      refine ax_iload dX11_isHeldOver_7 rfl ?_
      refine ax_aload_n (i := 0) dX11_isHeldOver_9 rfl rfl rfl ?_
      refine ax_getR dX11_isHeldOver_10 fl_X11_16 rfl rfl rfl (R.tow.1 1 (by decide)) ?_
      refine ax_invV (c := 0) (n := 0) (As := []) dX11_isHeldOver_13 cb_Jx4a65c_size_8abf5 cv_X11_75.1 cv_X11_75.2.1 cv_X11_75.2.2 rfl (by decide) rfl ⟨Nat.le_of_ble_eq_true rfl, Nat.le_of_ble_eq_true rfl⟩ (Nat.le_of_ble_eq_true rfl) rfl (t_lsSize (q := 1) (by decide) (R.lq (by decide)) (R.lst.2.1) (Nat.lt_of_le_of_lt (mS_b R.mI (k := 6) (b := 16) (by decide)) (by decide)) ?_)
      refine ax_icmp_ge (tgt := 74) dX11_isHeldOver_16 (by decide) (fun c_16 => ?_) (fun c_16 => ?_)
      · exact absurd (ge_of_c (b := (mN M 6)) rfl c_16 (by omega)) (by omega)
      · have hk2 : k < (mN M 6) := lt_of_c (b := (mN M 6)) rfl c_16 (by omega)
        refine ax_iconst (v := nI 0) dX11_isHeldOver_19 (by decide) ?_
        refine ax_istore (lv' := [(5, _), (4, _), (3, _), (0, _), (1, _), (2, _)]) dX11_isHeldOver_20 (by decide) rfl ?_
        refine ax_loc rfl (isHO_in R ?_)
        refine ax_iinc (v := _ + 1) (lv' := [(4, _), (5, _), (3, _), (0, _), (1, _), (2, _)]) dX11_isHeldOver_68 rfl rfl (by decide) rfl ?_
        refine ax_goto (tgt := 7) dX11_isHeldOver_71 (by decide) ?_
        rw [nI_1]
        have q := ih (k + 1) (by omega)
        rw [show rcO S (mN M 6) ((1 : Int32) <<< (nI r &&& 31)) (k + 1) = rcN S (rcO S (mN M 6) ((1 : Int32) <<< (nI r &&& 31)) k) (mN M 6) from rfl] at q
        exact ax_loc rfl q
  refine ax_iconst (v := 1) dX11_isHeldOver_0 (by decide) ?_
  refine ax_iload_n (i := 1) dX11_isHeldOver_1 rfl rfl ?_
  refine ax_ishl dX11_isHeldOver_2 ?_
  refine ax_istore_n (i := 3) (lv' := [(3, _), (0, _), (1, _), (2, _)]) dX11_isHeldOver_3 rfl (by decide) rfl ?_
  refine ax_iconst (v := nI 0) dX11_isHeldOver_4 (by decide) ?_
  refine ax_istore (lv' := [(4, _), (3, _), (0, _), (1, _), (2, _)]) dX11_isHeldOver_5 (by decide) rfl ?_
  exact ax_loc rfl (L (mN M 6) 0 (by omega))
