def sPutJ (D : Nat) (J : Nat → Int64) (n : Nat) (S : awS) : awS := (S.1, fun f i k => if f = 25 ∧ i = D ∧ k < n then J k else S.2.1 f i k, S.2.2)
theorem sPutJ_0 (D : Nat) (J : Nat → Int64) (S : awS) : sPutJ D J 0 S = S := by
  refine Prod.ext rfl (Prod.ext ?_ rfl)
  funext f i k
  exact if_neg (fun z => absurd z.2.2 (Nat.not_lt_zero _))
theorem sPutJ_s (D : Nat) (J : Nat → Int64) (n : Nat) (S : awS) {v : Int64} (hv : v = J n) : wL (sPutJ D J n S) 25 D n v = sPutJ D J (n + 1) S := by
  subst hv
  refine Prod.ext rfl (Prod.ext ?_ rfl)
  funext f i k
  show (if f = 25 ∧ i = D ∧ k = n then J n else (if f = 25 ∧ i = D ∧ k < n then J k else S.2.1 f i k)) = (if f = 25 ∧ i = D ∧ k < n + 1 then J k else S.2.1 f i k)
  by_cases c : f = 25 ∧ i = D ∧ k = n
  · rw [if_pos c, if_pos ⟨c.1, c.2.1, by omega⟩, c.2.2]
  · rw [if_neg c]
    by_cases d : f = 25 ∧ i = D ∧ k < n
    · rw [if_pos d, if_pos ⟨d.1, d.2.1, by omega⟩]
    · rw [if_neg d, if_neg (fun z => d ⟨z.1, z.2.1, Nat.lt_of_le_of_ne (Nat.le_of_lt_succ z.2.2) (fun e => c ⟨z.1, z.2.1, e⟩)⟩)]
/-- what keep writes: the value at a place -/
noncomputable def kpG (M : aM) (s : Nat) (wh : Int32) (z i : Nat) : Int64 := iC (mHas M s (mN M 1 + 1 + i - z)) (if wh = 3 then mVal M s (mN M 1 + 1 + i - z) else 1) 0

set_option maxHeartbeats 400000 in
set_option maxRecDepth 100000 in
theorem keepRow_2 {E : awE} {S0 : awS} {M : aM} {D s z : Nat} {wh : Int32} {Q : Option Value → awS → Nat → Nat → Prop} (hbrd : brdOk S0 D) (hsrc : srcOk S0 s) (hcl : sI S0 12 0 15 = nI (mN M 1)) (hcb : mN M 1 ≤ 400) (hz : z ≤ 60) (hzc : z ≤ mN M 1) (hval : ∀ t, t < 401 → sI S0 17 s t = mA M 5 (401 * s + t) ∧ sL S0 16 s t = mL M 4 (401 * s + t)) (h : Q (some (.int 0)) (sPutJ D (kpG M s wh z) z S0) 0 0) : awX true E m_X11_keepRow 27 [(5, .int (nI 0)), (0, .ref (nm 12 0)), (1, .ref (nm 2 D)), (2, .int wh), (3, .ref (nm 9 s)), (4, .int (nI z))] [] S0 0 0 Q := by
  have hvh : ∀ {t : Nat}, t < 401 → (sHas S0 s t ↔ mHas M s t) := fun {t} ht => by unfold sHas mHas; rw [(hval t ht).1]
  have L : ∀ (m i : Nat), i + m = z → awX true E m_X11_keepRow 27 [(5, .int (nI i)), (0, .ref (nm 12 0)), (1, .ref (nm 2 D)), (2, .int wh), (3, .ref (nm 9 s)), (4, .int (nI z))] [] (sPutJ D (kpG M s wh z) i S0) 0 0 Q := by
    intro m
    induction m with
    | zero =>
      intro i hm1 
      refine ax_iload dX11_keepRow_27 rfl ?_
      refine ax_iload dX11_keepRow_29 rfl ?_
      refine ax_icmp_ge (tgt := 84) dX11_keepRow_31 (by decide) (fun c_31 => ?_) (fun c_31 => ?_)
      · have hi2 : i = z := Nat.le_antisymm (by omega) (ge_of_c (b := z) rfl c_31 (by omega))
        refine ax_iconst (v := 0) dX11_keepRow_84 (by decide) ?_
        refine ax_iret dX11_keepRow_85 rfl rfl ?_
        rw [hi2]
        exact h
      · exact absurd (lt_of_c (b := z) rfl c_31 (by omega)) (by omega)
    | succ m ih =>
      intro i hm1 
      refine ax_iload dX11_keepRow_27 rfl ?_
      refine ax_iload dX11_keepRow_29 rfl ?_
      refine ax_icmp_ge (tgt := 84) dX11_keepRow_31 (by decide) (fun c_31 => ?_) (fun c_31 => ?_)
      · exact absurd (ge_of_c (b := z) rfl c_31 (by omega)) (by omega)
      · have hi2 : i < z := lt_of_c (b := z) rfl c_31 (by omega)
        have hV := hvh (t := mN M 1 + 1 + i - z) (by omega)
        refine ax_aload_n (i := 0) dX11_keepRow_34 rfl rfl rfl ?_
        refine ax_getI dX11_keepRow_35 fl_X11_67 rfl rfl rfl ?_
        refine ax_top hcl ?_
        refine ax_iload dX11_keepRow_38 rfl ?_
        refine ax_isub dX11_keepRow_40 ?_
        refine ax_iconst (v := 1) dX11_keepRow_41 (by decide) ?_
        refine ax_iadd dX11_keepRow_42 ?_
        refine ax_iload dX11_keepRow_43 rfl ?_
        refine ax_iadd dX11_keepRow_45 ?_
        refine ax_top (keep_t hzc) ?_
        refine ax_istore (lv' := [(6, _), (5, _), (0, _), (1, _), (2, _), (3, _), (4, _)]) dX11_keepRow_46 (by decide) rfl ?_
        refine ax_aload_n (i := 1) dX11_keepRow_48 rfl rfl rfl ?_
        refine ax_iload dX11_keepRow_49 rfl ?_
        refine ax_iload_n (i := 2) dX11_keepRow_51 rfl rfl ?_
        refine ax_iconst (v := 3) dX11_keepRow_52 (by decide) ?_
        refine ax_icmp_ne (tgt := 65) dX11_keepRow_53 (by decide) (fun c_53 => ?_) (fun c_53 => ?_)
        · refine ax_aload_n (i := 3) dX11_keepRow_65 rfl rfl rfl ?_
          refine ax_iload dX11_keepRow_66 rfl ?_
          refine ax_invV (c := 9) (n := 1) (As := [_]) dX11_keepRow_68 cb_X8_hasAt cv_X11_158.1 cv_X11_158.2.1 cv_X11_158.2.2 rfl (by decide) rfl ⟨Nat.le_of_ble_eq_true rfl, Nat.le_of_ble_eq_true rfl⟩ (Nat.le_of_ble_eq_true rfl) rfl (c_hasAt (n := mN M 1 + 1 + i - z) hsrc (Or.inl ⟨rfl, by omega⟩) (fun c_68 => ?_) (fun c_68 => ?_))
          · refine ax_invS (n := 1) (As := [_]) dX11_keepRow_71 cb_X11_bit cs_X11_165.1 cs_X11_165.2 rfl ⟨Nat.le_of_ble_eq_true rfl, Nat.le_of_ble_eq_true rfl⟩ (Nat.le_of_ble_eq_true rfl) rfl (c_bit1 ?_)
            refine ax_i2l dX11_keepRow_74 ?_
            refine ax_invV (c := 2) (n := 2) (As := [_, _]) dX11_keepRow_75 cb_X1_put cv_X11_490.1 cv_X11_490.2.1 cv_X11_490.2.2 rfl (by decide) rfl ⟨Nat.le_of_ble_eq_true rfl, Nat.le_of_ble_eq_true rfl⟩ (Nat.le_of_ble_eq_true rfl) rfl (c_bput hbrd (by omega) ?_)
            refine ax_sE (sPutJ_s D (kpG M s wh z) i S0 (show Int32.toInt64 1 = _ from by unfold kpG; rw [iC_t (hV.mp c_68), if_neg c_53]; rfl)) ?_
            refine ax_iinc (v := _ + 1) (lv' := [(5, _), (6, _), (0, _), (1, _), (2, _), (3, _), (4, _)]) dX11_keepRow_78 rfl rfl (by decide) rfl ?_
            refine ax_goto (tgt := 27) dX11_keepRow_81 (by decide) ?_
            rw [nI_1]
            exact ax_loc rfl (ih (i + 1) (by omega))
          · refine ax_invS (n := 1) (As := [_]) dX11_keepRow_71 cb_X11_bit cs_X11_165.1 cs_X11_165.2 rfl ⟨Nat.le_of_ble_eq_true rfl, Nat.le_of_ble_eq_true rfl⟩ (Nat.le_of_ble_eq_true rfl) rfl (c_bit0 ?_)
            refine ax_i2l dX11_keepRow_74 ?_
            refine ax_invV (c := 2) (n := 2) (As := [_, _]) dX11_keepRow_75 cb_X1_put cv_X11_490.1 cv_X11_490.2.1 cv_X11_490.2.2 rfl (by decide) rfl ⟨Nat.le_of_ble_eq_true rfl, Nat.le_of_ble_eq_true rfl⟩ (Nat.le_of_ble_eq_true rfl) rfl (c_bput hbrd (by omega) ?_)
            refine ax_sE (sPutJ_s D (kpG M s wh z) i S0 (show Int32.toInt64 0 = _ from by unfold kpG; rw [iC_f (fun q => c_68 (hV.mpr q))]; rfl)) ?_
            refine ax_iinc (v := _ + 1) (lv' := [(5, _), (6, _), (0, _), (1, _), (2, _), (3, _), (4, _)]) dX11_keepRow_78 rfl rfl (by decide) rfl ?_
            refine ax_goto (tgt := 27) dX11_keepRow_81 (by decide) ?_
            rw [nI_1]
            exact ax_loc rfl (ih (i + 1) (by omega))
        · refine ax_aload_n (i := 3) dX11_keepRow_56 rfl rfl rfl ?_
          refine ax_iload dX11_keepRow_57 rfl ?_
          refine ax_invV (c := 9) (n := 1) (As := [_]) dX11_keepRow_59 cb_X8_at cv_X11_486.1 cv_X11_486.2.1 cv_X11_486.2.2 rfl (by decide) rfl ⟨Nat.le_of_ble_eq_true rfl, Nat.le_of_ble_eq_true rfl⟩ (Nat.le_of_ble_eq_true rfl) rfl (c_at (n := mN M 1 + 1 + i - z) hsrc (Or.inl ⟨rfl, by omega⟩) (fun c_59 => ?_) (fun c_59 => ?_))
          · refine ax_goto (tgt := 75) dX11_keepRow_62 (by decide) ?_
            refine ax_invV (c := 2) (n := 2) (As := [_, _]) dX11_keepRow_75 cb_X1_put cv_X11_490.1 cv_X11_490.2.1 cv_X11_490.2.2 rfl (by decide) rfl ⟨Nat.le_of_ble_eq_true rfl, Nat.le_of_ble_eq_true rfl⟩ (Nat.le_of_ble_eq_true rfl) rfl (c_bput hbrd (by omega) ?_)
            refine ax_sE (sPutJ_s D (kpG M s wh z) i S0 (show sL S0 16 s (mN M 1 + 1 + i - z) = _ from by unfold kpG; rw [iC_t (hV.mp c_59), if_pos (Classical.not_not.mp c_53)]; exact (hval _ (by omega)).2)) ?_
            refine ax_iinc (v := _ + 1) (lv' := [(5, _), (6, _), (0, _), (1, _), (2, _), (3, _), (4, _)]) dX11_keepRow_78 rfl rfl (by decide) rfl ?_
            refine ax_goto (tgt := 27) dX11_keepRow_81 (by decide) ?_
            rw [nI_1]
            exact ax_loc rfl (ih (i + 1) (by omega))
          · refine ax_goto (tgt := 75) dX11_keepRow_62 (by decide) ?_
            refine ax_invV (c := 2) (n := 2) (As := [_, _]) dX11_keepRow_75 cb_X1_put cv_X11_490.1 cv_X11_490.2.1 cv_X11_490.2.2 rfl (by decide) rfl ⟨Nat.le_of_ble_eq_true rfl, Nat.le_of_ble_eq_true rfl⟩ (Nat.le_of_ble_eq_true rfl) rfl (c_bput hbrd (by omega) ?_)
            refine ax_sE (sPutJ_s D (kpG M s wh z) i S0 (show (0 : Int64) = _ from by unfold kpG; rw [iC_f (fun q => c_59 (hV.mpr q))])) ?_
            refine ax_iinc (v := _ + 1) (lv' := [(5, _), (6, _), (0, _), (1, _), (2, _), (3, _), (4, _)]) dX11_keepRow_78 rfl rfl (by decide) rfl ?_
            refine ax_goto (tgt := 27) dX11_keepRow_81 (by decide) ?_
            rw [nI_1]
            exact ax_loc rfl (ih (i + 1) (by omega))
  have h0 := L z 0 (by omega)
  rw [sPutJ_0] at h0
  exact h0

