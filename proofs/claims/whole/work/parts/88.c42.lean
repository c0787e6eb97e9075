/-- one round of reaching: the rules 0 to i-1 give their holders -/
noncomputable def rcN (S : awS) (x : Int32) : Nat → Int32
  | 0 => x
  | i + 1 => iC (hBit (rcN S x i) i) (rcN S x i ||| hAll S i 3) (rcN S x i)
noncomputable def rcO (S : awS) (n : Nat) (x : Int32) : Nat → Int32
  | 0 => x
  | k + 1 => rcN S (rcO S n x k) n

set_option maxHeartbeats 1000000 in
set_option maxRecDepth 100000 in
theorem isHO_in {E : awE} {S : awS} {M : aM} {τ : Nat → Nat → Nat} {Q : Option Value → awS → Nat → Nat → Prop} (R : cR τ S M) {r h k : Nat} {x : Int32} (KK : awX true E m_X11_isHeldOver 68 [(5, .int (nI (mN M 6))), (4, .int (nI k)), (3, .int (rcN S x (mN M 6))), (0, .ref (nm 12 0)), (1, .int (nI r)), (2, .int (nI h))] [] S 0 0 Q) : awX true E m_X11_isHeldOver 22 [(5, .int (nI 0)), (4, .int (nI k)), (3, .int x), (0, .ref (nm 12 0)), (1, .int (nI r)), (2, .int (nI h))] [] S 0 0 Q := by
  have e_b := R.nR
  have L : ∀ (m i : Nat), i + m = (mN M 6) → awX true E m_X11_isHeldOver 22 [(5, .int (nI i)), (4, .int (nI k)), (3, .int (rcN S x i)), (0, .ref (nm 12 0)), (1, .int (nI r)), (2, .int (nI h))] [] S 0 0 Q := by
    intro m
    induction m with
    | zero =>
      intro i hm1 
      refine ax_iload dX11_isHeldOver_22 rfl ?_
      refine ax_aload_n (i := 0) dX11_isHeldOver_24 rfl rfl rfl ?_
      refine ax_getR dX11_isHeldOver_25 fl_X11_16 rfl rfl rfl (R.tow.1 1 (by decide)) ?_
      refine ax_invV (c := 0) (n := 0) (As := []) dX11_isHeldOver_28 cb_Jx4a65c_size_8abf5 cv_X11_75.1 cv_X11_75.2.1 cv_X11_75.2.2 rfl (by decide) rfl ⟨Nat.le_of_ble_eq_true rfl, Nat.le_of_ble_eq_true rfl⟩ (Nat.le_of_ble_eq_true rfl) rfl (t_lsSize (q := 1) (by decide) (R.lq (by decide)) (R.lst.2.1) (Nat.lt_of_le_of_lt (mS_b R.mI (k := 6) (b := 16) (by decide)) (by decide)) ?_)
      refine ax_icmp_ge (tgt := 68) dX11_isHeldOver_31 (by decide) (fun c_31 => ?_) (fun c_31 => ?_)
      · have hi2 : i = (mN M 6) := Nat.le_antisymm (by omega) (ge_of_c (b := (mN M 6)) rfl c_31 (by omega))
        rw [hi2]
        exact ax_loc rfl KK
      · exact absurd (lt_of_c (b := (mN M 6)) rfl c_31 (by omega)) (by omega)
    | succ m ih =>
      intro i hm1 
      refine ax_iload dX11_isHeldOver_22 rfl ?_
      refine ax_aload_n (i := 0) dX11_isHeldOver_24 rfl rfl rfl ?_
      refine ax_getR dX11_isHeldOver_25 fl_X11_16 rfl rfl rfl (R.tow.1 1 (by decide)) ?_
      refine ax_invV (c := 0) (n := 0) (As := []) dX11_isHeldOver_28 cb_Jx4a65c_size_8abf5 cv_X11_75.1 cv_X11_75.2.1 cv_X11_75.2.2 rfl (by decide) rfl ⟨Nat.le_of_ble_eq_true rfl, Nat.le_of_ble_eq_true rfl⟩ (Nat.le_of_ble_eq_true rfl) rfl (t_lsSize (q := 1) (by decide) (R.lq (by decide)) (R.lst.2.1) (Nat.lt_of_le_of_lt (mS_b R.mI (k := 6) (b := 16) (by decide)) (by decide)) ?_)
      refine ax_icmp_ge (tgt := 68) dX11_isHeldOver_31 (by decide) (fun c_31 => ?_) (fun c_31 => ?_)
      · exact absurd (ge_of_c (b := (mN M 6)) rfl c_31 (by omega)) (by omega)
      · have hi2 : i < (mN M 6) := lt_of_c (b := (mN M 6)) rfl c_31 (by omega)
        refine ax_iload_n (i := 3) dX11_isHeldOver_34 rfl rfl ?_
        refine ax_iload dX11_isHeldOver_35 rfl ?_
        refine ax_ishr dX11_isHeldOver_37 ?_
        refine ax_iconst (v := 1) dX11_isHeldOver_38 (by decide) ?_
        refine ax_iand dX11_isHeldOver_39 ?_
        refine ax_iconst (v := 1) dX11_isHeldOver_40 (by decide) ?_
        refine ax_icmp_ne (tgt := 62) dX11_isHeldOver_41 (by decide) (fun c_41 => ?_) (fun c_41 => ?_)
        · refine ax_iinc (v := _ + 1) (lv' := [(5, _), (4, _), (3, _), (0, _), (1, _), (2, _)]) dX11_isHeldOver_62 rfl rfl (by decide) rfl ?_
          refine ax_goto (tgt := 22) dX11_isHeldOver_65 (by decide) ?_
          rw [nI_1]
          have e : rcN S x (i + 1) = rcN S x i := iC_f (fun z => c_41 ((hBit_iff (by omega)).mpr z))
          have q := ih (i + 1) (by omega)
          rw [e] at q
          exact ax_loc rfl q
        · refine ax_iload_n (i := 3) dX11_isHeldOver_44 rfl rfl ?_
          refine ax_aload_n (i := 0) dX11_isHeldOver_45 rfl rfl rfl ?_
          refine ax_getR dX11_isHeldOver_46 fl_X11_16 rfl rfl rfl (R.tow.1 1 (by decide)) ?_
          refine ax_iload dX11_isHeldOver_49 rfl ?_
          refine ax_invV (c := 0) (n := 1) (As := [_]) dX11_isHeldOver_51 cb_Jx4a65c_get_915e3 cv_X11_115.1 cv_X11_115.2.1 cv_X11_115.2.2 rfl (by decide) rfl ⟨Nat.le_of_ble_eq_true rfl, Nat.le_of_ble_eq_true rfl⟩ (Nat.le_of_ble_eq_true rfl) rfl (t_lsGet (q := 1) (by decide) (R.lq (by decide)) (R.lst.2.1) (Nat.lt_of_le_of_lt (mS_b R.mI (k := 6) (b := 16) (by decide)) (by decide)) (by omega) ?_)
          refine ax_cast (c := 6) dX11_isHeldOver_54 kl_X11_96 rfl (by decide) ?_
          refine ax_invV (c := 6) (n := 0) (As := []) dX11_isHeldOver_57 cb_X5_holders cv_X11_119.1 cv_X11_119.2.1 cv_X11_119.2.2 rfl (by decide) rfl ⟨Nat.le_of_ble_eq_true rfl, Nat.le_of_ble_eq_true rfl⟩ (Nat.le_of_ble_eq_true rfl) rfl (c_holders (R.rul i hi2) ?_)
          refine ax_ior dX11_isHeldOver_60 ?_
          refine ax_istore_n (i := 3) (lv' := [(3, _), (5, _), (4, _), (0, _), (1, _), (2, _)]) dX11_isHeldOver_61 rfl (by decide) rfl ?_
          refine ax_iinc (v := _ + 1) (lv' := [(5, _), (3, _), (4, _), (0, _), (1, _), (2, _)]) dX11_isHeldOver_62 rfl rfl (by decide) rfl ?_
          refine ax_goto (tgt := 22) dX11_isHeldOver_65 (by decide) ?_
          rw [nI_1]
          have e : rcN S x (i + 1) = rcN S x i ||| hAll S i 3 := iC_t ((hBit_iff (by omega)).mp (Classical.not_not.mp c_41))
          have q := ih (i + 1) (by omega)
          rw [e] at q
          exact ax_loc rfl q
  exact ax_loc rfl (L (mN M 6) 0 (by omega))

