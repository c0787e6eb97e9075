theorem nsG (i : Nat) : nsV (.ref (nm 3 i)) := Or.inl (by rw [nm_f (by decide)]; decide)
theorem grpE {M : aM} (hI : mI M) {k g : Nat} (hk : k < 300) (hg : g < 300) : (Value.ref (nm 3 (mE M 42 k)) = Value.ref (nm 3 g)) ↔ mA M 42 k = nI g := by
  have q := (hI.A (k := 42) (n := 300) (b := 300) (by decide) hk).1
  constructor
  · intro z
    have e := ((nm_eq (by decide) (by decide)).mp (Value.ref.inj z)).2
    rw [q, e]
  · intro z
    have e : mE M 42 k = g := by unfold mE; rw [z]; exact nI_cl (by omega)
    rw [e]

set_option maxHeartbeats 1000000 in
set_option maxRecDepth 100000 in
theorem sl_1 {E : awE} {S0 Sa : awS} {N0 : aM} {τ : Nat → Nat → Nat} {Q : Option Value → awS → Nat → Nat → Prop} {l g kc ks : Nat} {why t : Int32} (hl : l < 200) (hg3 : g < 300) (z0 : sdI τ l g why t S0 Sa N0) (KK : ∀ (S1 : awS) (N : aM), mIter (mSend1 g l) (mN N0 30) N0 = N → sdI τ l g why t S0 S1 N → awX true E m_X11_sendLetter 79 [(5, .int (nI (mN N0 30))), (4, .ref (nm 4 l)), (0, .ref (nm 12 0)), (1, .ref (nm 3 g)), (2, .int why), (3, .int t)] [] S1 kc ks Q) : awX true E m_X11_sendLetter 15 [(5, .int (nI 0)), (4, .ref (nm 4 l)), (0, .ref (nm 12 0)), (1, .ref (nm 3 g)), (2, .int why), (3, .int t)] [] Sa kc ks Q := by
  have hI0 := z0.2.1
  have e_b : (mN N0 30) ≤ 300 := mS_b hI0 (k := 30) (b := 300) (by decide)
  have L : ∀ (m k : Nat), k + m = (mN N0 30) → ∀ (S1 : awS) (N : aM), mIter (mSend1 g l) k N0 = N → sdI τ l g why t S0 S1 N → awX true E m_X11_sendLetter 15 [(5, .int (nI k)), (4, .ref (nm 4 l)), (0, .ref (nm 12 0)), (1, .ref (nm 3 g)), (2, .int why), (3, .int t)] [] S1 kc ks Q := by
    intro m
    induction m with
    | zero =>
      intro k hm1 S1 N e1 z1
      have hn : mN (pS N 63 (nI l)) 30 = (mN N0 30) := by
        rw [← e1]
        exact congrArg Int32.toNatClampNeg ((mSend1_inv hI0 g l k hl (by omega)).2 30)
      have R1 := z1.1
      refine ax_iload dX11_sendLetter_15 rfl ?_
      refine ax_aload_n (i := 0) dX11_sendLetter_17 rfl rfl rfl ?_
      refine ax_getR dX11_sendLetter_18 fl_X11_22 rfl rfl rfl (R1.tow.1 3 (by decide)) ?_
      refine ax_invV (c := 0) (n := 0) (As := []) dX11_sendLetter_21 cb_Jx4a65c_size_8abf5 cv_X11_75.1 cv_X11_75.2.1 cv_X11_75.2.2 rfl (by decide) rfl ⟨Nat.le_of_ble_eq_true rfl, Nat.le_of_ble_eq_true rfl⟩ (Nat.le_of_ble_eq_true rfl) rfl (t_lsSize (q := 3) (by decide) (show sC S1 (32 + 3) = 1 from R1.lq (q := 3) (by decide)) (R1.lst.2.2.2.1) (Nat.lt_of_le_of_lt (mS_b R1.mI (k := 30) (b := 300) (by decide)) (by decide)) ?_)
      refine ax_icmp_ge (tgt := 79) dX11_sendLetter_24 (by decide) (fun c_24 => ?_) (fun c_24 => ?_)
      · have hk2 : k = (mN N0 30) := Nat.le_antisymm (by omega) (ge_of_c (b := (mN N0 30)) rfl (hn ▸ c_24) (by omega))
        rw [hk2] at e1
        rw [hk2]
        exact ax_loc rfl (KK S1 N e1 z1)
      · exact absurd (lt_of_c (b := (mN N0 30)) rfl (hn ▸ c_24) (by omega)) (by omega)
    | succ m ih =>
      intro k hm1 S1 N e1 z1
      have hn : mN (pS N 63 (nI l)) 30 = (mN N0 30) := by
        rw [← e1]
        exact congrArg Int32.toNatClampNeg ((mSend1_inv hI0 g l k hl (by omega)).2 30)
      obtain ⟨R1, hI1, hr1, ⟨m, hm, hF, h67, hj⟩, hgs, hf⟩ := z1
      refine ax_iload dX11_sendLetter_15 rfl ?_
      refine ax_aload_n (i := 0) dX11_sendLetter_17 rfl rfl rfl ?_
      refine ax_getR dX11_sendLetter_18 fl_X11_22 rfl rfl rfl (R1.tow.1 3 (by decide)) ?_
      refine ax_invV (c := 0) (n := 0) (As := []) dX11_sendLetter_21 cb_Jx4a65c_size_8abf5 cv_X11_75.1 cv_X11_75.2.1 cv_X11_75.2.2 rfl (by decide) rfl ⟨Nat.le_of_ble_eq_true rfl, Nat.le_of_ble_eq_true rfl⟩ (Nat.le_of_ble_eq_true rfl) rfl (t_lsSize (q := 3) (by decide) (show sC S1 (32 + 3) = 1 from R1.lq (q := 3) (by decide)) (R1.lst.2.2.2.1) (Nat.lt_of_le_of_lt (mS_b R1.mI (k := 30) (b := 300) (by decide)) (by decide)) ?_)
      refine ax_icmp_ge (tgt := 79) dX11_sendLetter_24 (by decide) (fun c_24 => ?_) (fun c_24 => ?_)
      · exact absurd (ge_of_c (b := (mN N0 30)) rfl (hn ▸ c_24) (by omega)) (by omega)
      · have hk2 : k < (mN N0 30) := lt_of_c (b := (mN N0 30)) rfl (hn ▸ c_24) (by omega)
        refine ax_aload_n (i := 0) dX11_sendLetter_27 rfl rfl rfl ?_
        refine ax_getR dX11_sendLetter_28 fl_X11_22 rfl rfl rfl (R1.tow.1 3 (by decide)) ?_
        refine ax_iload dX11_sendLetter_31 rfl ?_
        refine ax_invV (c := 0) (n := 1) (As := [_]) dX11_sendLetter_33 cb_Jx4a65c_get_915e3 cv_X11_115.1 cv_X11_115.2.1 cv_X11_115.2.2 rfl (by decide) rfl ⟨Nat.le_of_ble_eq_true rfl, Nat.le_of_ble_eq_true rfl⟩ (Nat.le_of_ble_eq_true rfl) rfl (t_lsGet (q := 3) (by decide) (show sC S1 (32 + 3) = 1 from R1.lq (q := 3) (by decide)) (R1.lst.2.2.2.1) (Nat.lt_of_le_of_lt (mS_b R1.mI (k := 30) (b := 300) (by decide)) (by decide)) (by omega) ?_)
        refine ax_cast (c := 1) dX11_sendLetter_36 kl_X11_240 rfl (by decide) ?_
        refine ax_astore (lv' := [(6, _), (5, _), (4, _), (0, _), (1, _), (2, _), (3, _)]) dX11_sendLetter_39 (by decide) rfl rfl ?_
        have hkN : k < mN N 30 := (show mN N 30 = (mN N0 30) from hn) ▸ hk2
        have hk3 : k < 300 := by omega
        have fl := (show cRest (pS N 63 (nI l)) from hr1).flg R1 (i := k) hkN
        refine ax_aload dX11_sendLetter_41 rfl rfl ?_
        refine ax_getR dX11_sendLetter_43 fl_X11_332 rfl rfl rfl (R1.ref.1 k hkN).2.2 ?_
        refine ax_aload_n (i := 1) dX11_sendLetter_46 rfl rfl rfl ?_
        refine ax_acmp_ne (tgt := 73) dX11_sendLetter_47 (by decide) rfl rfl (Or.inr ⟨nsG _, nsG _⟩) (fun c_47 => ?_) (fun c_47 => ?_)
        · refine ax_iinc (v := _ + 1) (lv' := [(5, _), (6, _), (4, _), (0, _), (1, _), (2, _), (3, _)]) dX11_sendLetter_73 rfl rfl (by decide) rfl ?_
          refine ax_goto (tgt := 15) dX11_sendLetter_76 (by decide) ?_
          rw [nI_1]
          have es : mSend1 g l k N = N := if_neg (fun z => c_47 ((grpE hI1 hk3 hg3).mpr z.1))
          exact ax_loc rfl (ih (k + 1) (by omega) S1 (mSend1 g l k N) (by show mSend1 g l k (mIter (mSend1 g l) k N0) = _; rw [e1]) (by rw [es]; exact ⟨R1, hI1, hr1, ⟨m, hm, hF, h67, hj⟩, hgs, hf⟩))
        · refine ax_aload dX11_sendLetter_50 rfl rfl ?_
          refine ax_invV (c := 1) (n := 0) (As := []) dX11_sendLetter_52 cb_X0_isClear cv_X11_361.1 cv_X11_361.2.1 cv_X11_361.2.2 rfl (by decide) rfl ⟨Nat.le_of_ble_eq_true rfl, Nat.le_of_ble_eq_true rfl⟩ (Nat.le_of_ble_eq_true rfl) rfl (c_isClear (fun c_52 => ?_) (fun c_52 => ?_))
          · refine ax_if_eq (tgt := 73) dX11_sendLetter_55 (by decide) (fun z => absurd z (by decide)) (fun _ => ?_)
            refine ax_aload dX11_sendLetter_58 rfl rfl ?_
            refine ax_aload dX11_sendLetter_60 rfl rfl ?_
            refine ax_invV (c := 4) (n := 1) (As := [_]) dX11_sendLetter_62 cb_X3_add cv_X11_364.1 cv_X11_364.2.1 cv_X11_364.2.2 rfl (by decide) rfl ⟨Nat.le_of_ble_eq_true rfl, Nat.le_of_ble_eq_true rfl⟩ (Nat.le_of_ble_eq_true rfl) rfl (c_addL hF.1 hF.2.2.2.2.2.1 hm (fun c_62 => ?_) (fun c_62 => ?_))
            · refine ax_if_eq (tgt := 73) dX11_sendLetter_65 (by decide) (fun z => absurd z (by decide)) (fun _ => ?_)
              refine ax_aload dX11_sendLetter_68 rfl rfl ?_
              refine ax_invV (c := 1) (n := 0) (As := []) dX11_sendLetter_70 cb_X0_tellLasting cv_X11_366.1 cv_X11_366.2.1 cv_X11_366.2.2 rfl (by decide) rfl ⟨Nat.le_of_ble_eq_true rfl, Nat.le_of_ble_eq_true rfl⟩ (Nat.le_of_ble_eq_true rfl) rfl (c_tellLasting ?_)
              have eg := (grpE hI1 hk3 hg3).mp c_47
              refine ax_iinc (v := _ + 1) (lv' := [(5, _), (6, _), (4, _), (0, _), (1, _), (2, _), (3, _)]) dX11_sendLetter_73 rfl rfl (by decide) rfl ?_
              refine ax_goto (tgt := 15) dX11_sendLetter_76 (by decide) ?_
              rw [nI_1]
              have es : mSend1 g l k N = mWrite N l k := if_pos ⟨eg, (show 0 < sI S1 1 k 8 ↔ 0 < mA N 37 k from by rw [show sI S1 1 k 8 = mA N 37 k from fl.2.2.1]).mp c_52⟩
              exact ax_loc rfl (ih (k + 1) (by omega) _ (mSend1 g l k N) (by show mSend1 g l k (mIter (mSend1 g l) k N0) = _; rw [e1]) (by rw [es]; exact sd_L R1 hI1 hr1 c_62 hF h67 hj hgs hf hl hkN (Classical.byContradiction fun w => absurd ((show 0 < sI S1 1 k 8 ↔ 0 < mA N 37 k from by rw [show sI S1 1 k 8 = mA N 37 k from fl.2.2.1]).mp c_52) (by rw [(hr1 k hkN w).2.2.1]; decide))))
            · refine ax_if_eq (tgt := 73) dX11_sendLetter_65 (by decide) (fun _ => ?_) (fun z => absurd (by decide) z)
              have eg := (grpE hI1 hk3 hg3).mp c_47
              refine ax_iinc (v := _ + 1) (lv' := [(5, _), (6, _), (4, _), (0, _), (1, _), (2, _), (3, _)]) dX11_sendLetter_73 rfl rfl (by decide) rfl ?_
              refine ax_goto (tgt := 15) dX11_sendLetter_76 (by decide) ?_
              rw [nI_1]
              have es : mSend1 g l k N = N := (if_pos ⟨eg, (show 0 < sI S1 1 k 8 ↔ 0 < mA N 37 k from by rw [show sI S1 1 k 8 = mA N 37 k from fl.2.2.1]).mp c_52⟩).trans (mWrite_40 (h67.trans (by rw [c_62]; rfl)))
              exact ax_loc rfl (ih (k + 1) (by omega) S1 (mSend1 g l k N) (by show mSend1 g l k (mIter (mSend1 g l) k N0) = _; rw [e1]) (by rw [es]; exact ⟨R1, hI1, hr1, ⟨m, hm, hF, h67, hj⟩, hgs, hf⟩))
          · refine ax_if_eq (tgt := 73) dX11_sendLetter_55 (by decide) (fun _ => ?_) (fun z => absurd (by decide) z)
            have eg := (grpE hI1 hk3 hg3).mp c_47
            refine ax_iinc (v := _ + 1) (lv' := [(5, _), (6, _), (4, _), (0, _), (1, _), (2, _), (3, _)]) dX11_sendLetter_73 rfl rfl (by decide) rfl ?_
            refine ax_goto (tgt := 15) dX11_sendLetter_76 (by decide) ?_
            rw [nI_1]
            have es : mSend1 g l k N = N := if_neg (fun z => c_52 ((show 0 < sI S1 1 k 8 ↔ 0 < mA N 37 k from by rw [show sI S1 1 k 8 = mA N 37 k from fl.2.2.1]).mpr z.2))
            exact ax_loc rfl (ih (k + 1) (by omega) S1 (mSend1 g l k N) (by show mSend1 g l k (mIter (mSend1 g l) k N0) = _; rw [e1]) (by rw [es]; exact ⟨R1, hI1, hr1, ⟨m, hm, hF, h67, hj⟩, hgs, hf⟩))
  exact ax_loc rfl (L (mN N0 30) 0 (by omega) Sa N0 rfl z0)

theorem endE {τ : Nat → Nat → Nat} {S : awS} {M : aM} (R : cR τ S M) {k : Nat} (hk : k < mN M 30) : (¬ sI S 1 k 5 = 0 ∧ ¬ sI S 1 k 11 = 0 ∧ sI S 1 k 12 = 0) ↔ (0 < mA M 34 k ∧ ¬ mA M 40 k = 0 ∧ mA M 41 k = 0) := by
  rw [R.int (f := 1) (k := 5) (m := 34) (q := 30) (by decide) hk, R.int (f := 1) (k := 11) (m := 40) (q := 30) (by decide) hk, R.int (f := 1) (k := 12) (m := 41) (q := 30) (by decide) hk]
  have q := (R.inv.2.2.1 k hk).2.2.2.2.2
  refine ⟨fun z => ⟨Int32.lt_of_le_of_ne q (fun y => z.1 y.symm), z.2⟩, fun z => ⟨fun y => ?_, z.2⟩⟩
  have z1 := z.1
  rw [y] at z1
  exact absurd z1 (by decide)

set_option maxHeartbeats 1000000 in
set_option maxRecDepth 100000 in
theorem sl_2 {E : awE} {S0 Sa : awS} {N0 : aM} {τ : Nat → Nat → Nat} {Q : Option Value → awS → Nat → Nat → Prop} {l g kc ks : Nat} {why t : Int32} (hl : l < 200) (hg3 : g < 300) (z0 : sdI τ l g why t S0 Sa N0) (KK : ∀ (S1 : awS) (N : aM), mIter (mSend2 g l) (mN N0 30) N0 = N → sdI τ l g why t S0 S1 N → awX true E m_X11_sendLetter 146 [(5, .int (nI (mN N0 30))), (4, .ref (nm 4 l)), (0, .ref (nm 12 0)), (1, .ref (nm 3 g)), (2, .int why), (3, .int t)] [] S1 kc ks Q) : awX true E m_X11_sendLetter 82 [(5, .int (nI 0)), (4, .ref (nm 4 l)), (0, .ref (nm 12 0)), (1, .ref (nm 3 g)), (2, .int why), (3, .int t)] [] Sa kc ks Q := by
  have hI0 := z0.2.1
  have e_b : (mN N0 30) ≤ 300 := mS_b hI0 (k := 30) (b := 300) (by decide)
  have L : ∀ (m k : Nat), k + m = (mN N0 30) → ∀ (S1 : awS) (N : aM), mIter (mSend2 g l) k N0 = N → sdI τ l g why t S0 S1 N → awX true E m_X11_sendLetter 82 [(5, .int (nI k)), (4, .ref (nm 4 l)), (0, .ref (nm 12 0)), (1, .ref (nm 3 g)), (2, .int why), (3, .int t)] [] S1 kc ks Q := by
    intro m
    induction m with
    | zero =>
      intro k hm1 S1 N e1 z1
      have hn : mN (pS N 63 (nI l)) 30 = (mN N0 30) := by
        rw [← e1]
        exact congrArg Int32.toNatClampNeg ((mSend2_inv hI0 g l k hl (by omega)).2 30)
      have R1 := z1.1
      refine ax_iload dX11_sendLetter_82 rfl ?_
      refine ax_aload_n (i := 0) dX11_sendLetter_84 rfl rfl rfl ?_
      refine ax_getR dX11_sendLetter_85 fl_X11_22 rfl rfl rfl (R1.tow.1 3 (by decide)) ?_
      refine ax_invV (c := 0) (n := 0) (As := []) dX11_sendLetter_88 cb_Jx4a65c_size_8abf5 cv_X11_75.1 cv_X11_75.2.1 cv_X11_75.2.2 rfl (by decide) rfl ⟨Nat.le_of_ble_eq_true rfl, Nat.le_of_ble_eq_true rfl⟩ (Nat.le_of_ble_eq_true rfl) rfl (t_lsSize (q := 3) (by decide) (show sC S1 (32 + 3) = 1 from R1.lq (q := 3) (by decide)) (R1.lst.2.2.2.1) (Nat.lt_of_le_of_lt (mS_b R1.mI (k := 30) (b := 300) (by decide)) (by decide)) ?_)
      refine ax_icmp_ge (tgt := 146) dX11_sendLetter_91 (by decide) (fun c_91 => ?_) (fun c_91 => ?_)
      · have hk2 : k = (mN N0 30) := Nat.le_antisymm (by omega) (ge_of_c (b := (mN N0 30)) rfl (hn ▸ c_91) (by omega))
        rw [hk2] at e1
        rw [hk2]
        exact ax_loc rfl (KK S1 N e1 z1)
      · exact absurd (lt_of_c (b := (mN N0 30)) rfl (hn ▸ c_91) (by omega)) (by omega)
    | succ m ih =>
      intro k hm1 S1 N e1 z1
      have hn : mN (pS N 63 (nI l)) 30 = (mN N0 30) := by
        rw [← e1]
        exact congrArg Int32.toNatClampNeg ((mSend2_inv hI0 g l k hl (by omega)).2 30)
      obtain ⟨R1, hI1, hr1, ⟨m, hm, hF, h67, hj⟩, hgs, hf⟩ := z1
      refine ax_iload dX11_sendLetter_82 rfl ?_
      refine ax_aload_n (i := 0) dX11_sendLetter_84 rfl rfl rfl ?_
      refine ax_getR dX11_sendLetter_85 fl_X11_22 rfl rfl rfl (R1.tow.1 3 (by decide)) ?_
      refine ax_invV (c := 0) (n := 0) (As := []) dX11_sendLetter_88 cb_Jx4a65c_size_8abf5 cv_X11_75.1 cv_X11_75.2.1 cv_X11_75.2.2 rfl (by decide) rfl ⟨Nat.le_of_ble_eq_true rfl, Nat.le_of_ble_eq_true rfl⟩ (Nat.le_of_ble_eq_true rfl) rfl (t_lsSize (q := 3) (by decide) (show sC S1 (32 + 3) = 1 from R1.lq (q := 3) (by decide)) (R1.lst.2.2.2.1) (Nat.lt_of_le_of_lt (mS_b R1.mI (k := 30) (b := 300) (by decide)) (by decide)) ?_)
      refine ax_icmp_ge (tgt := 146) dX11_sendLetter_91 (by decide) (fun c_91 => ?_) (fun c_91 => ?_)
      · exact absurd (ge_of_c (b := (mN N0 30)) rfl (hn ▸ c_91) (by omega)) (by omega)
      · have hk2 : k < (mN N0 30) := lt_of_c (b := (mN N0 30)) rfl (hn ▸ c_91) (by omega)
        refine ax_aload_n (i := 0) dX11_sendLetter_94 rfl rfl rfl ?_
        refine ax_getR dX11_sendLetter_95 fl_X11_22 rfl rfl rfl (R1.tow.1 3 (by decide)) ?_
        refine ax_iload dX11_sendLetter_98 rfl ?_
        refine ax_invV (c := 0) (n := 1) (As := [_]) dX11_sendLetter_100 cb_Jx4a65c_get_915e3 cv_X11_115.1 cv_X11_115.2.1 cv_X11_115.2.2 rfl (by decide) rfl ⟨Nat.le_of_ble_eq_true rfl, Nat.le_of_ble_eq_true rfl⟩ (Nat.le_of_ble_eq_true rfl) rfl (t_lsGet (q := 3) (by decide) (show sC S1 (32 + 3) = 1 from R1.lq (q := 3) (by decide)) (R1.lst.2.2.2.1) (Nat.lt_of_le_of_lt (mS_b R1.mI (k := 30) (b := 300) (by decide)) (by decide)) (by omega) ?_)
        refine ax_cast (c := 1) dX11_sendLetter_103 kl_X11_240 rfl (by decide) ?_
        refine ax_astore (lv' := [(6, _), (5, _), (4, _), (0, _), (1, _), (2, _), (3, _)]) dX11_sendLetter_106 (by decide) rfl rfl ?_
        have hkN : k < mN N 30 := (show mN N 30 = (mN N0 30) from hn) ▸ hk2
        have hk3 : k < 300 := by omega
        have fl := (show cRest (pS N 63 (nI l)) from hr1).flg R1 (i := k) hkN
        refine ax_aload dX11_sendLetter_108 rfl rfl ?_
        refine ax_getR dX11_sendLetter_110 fl_X11_332 rfl rfl rfl (R1.ref.1 k hkN).2.2 ?_
        refine ax_aload_n (i := 1) dX11_sendLetter_113 rfl rfl rfl ?_
        refine ax_acmp_ne (tgt := 140) dX11_sendLetter_114 (by decide) rfl rfl (Or.inr ⟨nsG _, nsG _⟩) (fun c_114 => ?_) (fun c_114 => ?_)
        · refine ax_iinc (v := _ + 1) (lv' := [(5, _), (6, _), (4, _), (0, _), (1, _), (2, _), (3, _)]) dX11_sendLetter_140 rfl rfl (by decide) rfl ?_
          refine ax_goto (tgt := 82) dX11_sendLetter_143 (by decide) ?_
          rw [nI_1]
          have es : mSend2 g l k N = N := if_neg (fun z => c_114 ((grpE hI1 hk3 hg3).mpr z.1))
          exact ax_loc rfl (ih (k + 1) (by omega) S1 (mSend2 g l k N) (by show mSend2 g l k (mIter (mSend2 g l) k N0) = _; rw [e1]) (by rw [es]; exact ⟨R1, hI1, hr1, ⟨m, hm, hF, h67, hj⟩, hgs, hf⟩))
        · refine ax_aload dX11_sendLetter_117 rfl rfl ?_
          refine ax_invV (c := 1) (n := 0) (As := []) dX11_sendLetter_119 cb_X0_wantsEndTold cv_X11_369.1 cv_X11_369.2.1 cv_X11_369.2.2 rfl (by decide) rfl ⟨Nat.le_of_ble_eq_true rfl, Nat.le_of_ble_eq_true rfl⟩ (Nat.le_of_ble_eq_true rfl) rfl (c_wantsEnd (fun c_119 => ?_) (fun c_119 => ?_))
          · refine ax_if_eq (tgt := 140) dX11_sendLetter_122 (by decide) (fun z => absurd z (by decide)) (fun _ => ?_)
            refine ax_aload dX11_sendLetter_125 rfl rfl ?_
            refine ax_aload dX11_sendLetter_127 rfl rfl ?_
            refine ax_invV (c := 4) (n := 1) (As := [_]) dX11_sendLetter_129 cb_X3_add cv_X11_364.1 cv_X11_364.2.1 cv_X11_364.2.2 rfl (by decide) rfl ⟨Nat.le_of_ble_eq_true rfl, Nat.le_of_ble_eq_true rfl⟩ (Nat.le_of_ble_eq_true rfl) rfl (c_addL hF.1 hF.2.2.2.2.2.1 hm (fun c_129 => ?_) (fun c_129 => ?_))
            · refine ax_if_eq (tgt := 140) dX11_sendLetter_132 (by decide) (fun z => absurd z (by decide)) (fun _ => ?_)
              refine ax_aload dX11_sendLetter_135 rfl rfl ?_
              refine ax_invV (c := 1) (n := 0) (As := []) dX11_sendLetter_137 cb_X0_tellEnd cv_X11_372.1 cv_X11_372.2.1 cv_X11_372.2.2 rfl (by decide) rfl ⟨Nat.le_of_ble_eq_true rfl, Nat.le_of_ble_eq_true rfl⟩ (Nat.le_of_ble_eq_true rfl) rfl (c_tellEnd ?_)
              have eg := (grpE hI1 hk3 hg3).mp c_114
              refine ax_iinc (v := _ + 1) (lv' := [(5, _), (6, _), (4, _), (0, _), (1, _), (2, _), (3, _)]) dX11_sendLetter_140 rfl rfl (by decide) rfl ?_
              refine ax_goto (tgt := 82) dX11_sendLetter_143 (by decide) ?_
              rw [nI_1]
              have es : mSend2 g l k N = mWrite N l k := if_pos ⟨eg, (show (¬ sI S1 1 k 5 = 0 ∧ ¬ sI S1 1 k 11 = 0 ∧ sI S1 1 k 12 = 0) ↔ (0 < mA N 34 k ∧ ¬ mA N 40 k = 0 ∧ mA N 41 k = 0) from endE R1 hkN).mp c_119⟩
              exact ax_loc rfl (ih (k + 1) (by omega) _ (mSend2 g l k N) (by show mSend2 g l k (mIter (mSend2 g l) k N0) = _; rw [e1]) (by rw [es]; exact sd_E R1 hI1 hr1 c_129 hF h67 hj hgs hf hl hkN (fun w => absurd (((show (¬ sI S1 1 k 5 = 0 ∧ ¬ sI S1 1 k 11 = 0 ∧ sI S1 1 k 12 = 0) ↔ (0 < mA N 34 k ∧ ¬ mA N 40 k = 0 ∧ mA N 41 k = 0) from endE R1 hkN).mp c_119).1) (by rw [w]; decide))))
            · refine ax_if_eq (tgt := 140) dX11_sendLetter_132 (by decide) (fun _ => ?_) (fun z => absurd (by decide) z)
              have eg := (grpE hI1 hk3 hg3).mp c_114
              refine ax_iinc (v := _ + 1) (lv' := [(5, _), (6, _), (4, _), (0, _), (1, _), (2, _), (3, _)]) dX11_sendLetter_140 rfl rfl (by decide) rfl ?_
              refine ax_goto (tgt := 82) dX11_sendLetter_143 (by decide) ?_
              rw [nI_1]
              have es : mSend2 g l k N = N := (if_pos ⟨eg, (show (¬ sI S1 1 k 5 = 0 ∧ ¬ sI S1 1 k 11 = 0 ∧ sI S1 1 k 12 = 0) ↔ (0 < mA N 34 k ∧ ¬ mA N 40 k = 0 ∧ mA N 41 k = 0) from endE R1 hkN).mp c_119⟩).trans (mWrite_40 (h67.trans (by rw [c_129]; rfl)))
              exact ax_loc rfl (ih (k + 1) (by omega) S1 (mSend2 g l k N) (by show mSend2 g l k (mIter (mSend2 g l) k N0) = _; rw [e1]) (by rw [es]; exact ⟨R1, hI1, hr1, ⟨m, hm, hF, h67, hj⟩, hgs, hf⟩))
          · refine ax_if_eq (tgt := 140) dX11_sendLetter_122 (by decide) (fun _ => ?_) (fun z => absurd (by decide) z)
            have eg := (grpE hI1 hk3 hg3).mp c_114
            refine ax_iinc (v := _ + 1) (lv' := [(5, _), (6, _), (4, _), (0, _), (1, _), (2, _), (3, _)]) dX11_sendLetter_140 rfl rfl (by decide) rfl ?_
            refine ax_goto (tgt := 82) dX11_sendLetter_143 (by decide) ?_
            rw [nI_1]
            have es : mSend2 g l k N = N := if_neg (fun z => c_119 ((show (¬ sI S1 1 k 5 = 0 ∧ ¬ sI S1 1 k 11 = 0 ∧ sI S1 1 k 12 = 0) ↔ (0 < mA N 34 k ∧ ¬ mA N 40 k = 0 ∧ mA N 41 k = 0) from endE R1 hkN).mpr z.2))
            exact ax_loc rfl (ih (k + 1) (by omega) S1 (mSend2 g l k N) (by show mSend2 g l k (mIter (mSend2 g l) k N0) = _; rw [e1]) (by rw [es]; exact ⟨R1, hI1, hr1, ⟨m, hm, hF, h67, hj⟩, hgs, hf⟩))
  exact ax_loc rfl (L (mN N0 30) 0 (by omega) Sa N0 rfl z0)

