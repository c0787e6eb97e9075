-- the constructors of the class: a board, the roster
abbrev brS (S : awS) (d : Nat) : awS := wR (wNew (wI (wR (wI S 2 d 0 0) 2 d 1 none) 2 d 2 0) 25 60) 2 d 3 (some (nm 25 d))

set_option maxHeartbeats 400000 in
set_option maxRecDepth 100000 in
theorem c_iBrd {E : awE} {S : awS} {Q : Option Value → awS → Nat → Nat → Prop} {d : Nat} (h25 : sC S 25 = d) (h : Q none (brS S d) 1 60) : awT true E m_X1_init [.ref (nm 2 d)] S Q := by
  refine awT.of (by decide) (by decide) (Nat.le_of_ble_eq_true rfl) ?_
  refine ax_aload_n (i := 0) dX1_init_0 rfl rfl rfl ?_
  refine ax_objInit dX1_init_1 ki_X1_3 ko_1 ko_2 ⟨Nat.le_of_ble_eq_true rfl, Nat.le_of_ble_eq_true rfl⟩ (Nat.le_of_ble_eq_true rfl) ?_
  refine ax_aload_n (i := 0) dX1_init_4 rfl rfl rfl ?_
  refine ax_iconst (v := 0) dX1_init_5 (by decide) ?_
  refine ax_putI dX1_init_6 fl_X1_9 rfl rfl rfl (Or.inl rfl) rfl rfl ?_
  refine ax_aload_n (i := 0) dX1_init_9 rfl rfl rfl ?_
  refine ax_null dX1_init_10 ?_
  refine ax_putN dX1_init_11 fl_X1_15 rfl rfl rfl (Or.inl rfl) ?_
  refine ax_aload_n (i := 0) dX1_init_14 rfl rfl rfl ?_
  refine ax_iconst (v := 0) dX1_init_15 (by decide) ?_
  refine ax_putI dX1_init_16 fl_X1_19 rfl rfl rfl (Or.inl rfl) rfl rfl ?_
  refine ax_aload_n (i := 0) dX1_init_19 rfl rfl rfl ?_
  refine ax_bipush (v := 60) dX1_init_20 (by decide) ?_
  refine ax_newJ (f := 25) (n := 60) dX1_init_22 ka_long rfl rfl (by decide) (by decide) (by decide) ?_
  rw [show sC (wI (wR (wI S 2 d 0 0) 2 d 1 none) 2 d 2 0) 25 = d from h25]
  refine ax_putR dX1_init_24 fl_X1_22 rfl rfl rfl (Or.inr ⟨rfl, rfl, rfl⟩) ?_
  refine ax_vret dX1_init_27 rfl ?_
  exact h
abbrev roS (S : awS) : awS := (wR (wNew (wR (wNew (wR (wK (wK (wNew (wR (wK (wK (wNew (wI S 5 0 0 0) 39 0) 7 (1000000, fun _ => nm (32+7) 0)) 7 (0, nm 7)) 5 0 1 (some (nm 39 0))) 40 0) 8 (1000000, fun _ => nm (32+8) 0)) 8 (0, nm 10)) 5 0 2 (some (nm 40 0))) 27 8) 5 0 3 (some (nm 27 0))) 28 8) 5 0 4 (some (nm 28 0)))
set_option maxHeartbeats 400000 in
set_option maxRecDepth 100000 in
theorem c_iRos {E : awE} {S : awS} {Q : Option Value → awS → Nat → Nat → Prop} (h27 : sC S 27 = 0) (h28 : sC S 28 = 0) (h39 : sC S 39 = 0) (h40 : sC S 40 = 0) (h : Q none (roS S) 4 22) : awT true E m_X4_init [.ref (nm 5 0)] S Q := by
  refine awT.of (by decide) (by decide) (Nat.le_of_ble_eq_true rfl) ?_
  refine ax_aload_n (i := 0) dX4_init_0 rfl rfl rfl ?_
  refine ax_objInit dX4_init_1 ki_X4_3 ko_1 ko_2 ⟨Nat.le_of_ble_eq_true rfl, Nat.le_of_ble_eq_true rfl⟩ (Nat.le_of_ble_eq_true rfl) ?_
  refine ax_aload_n (i := 0) dX4_init_4 rfl rfl rfl ?_
  refine ax_iconst (v := 0) dX4_init_5 (by decide) ?_
  refine ax_putI dX4_init_6 fl_X4_9 rfl rfl rfl (Or.inl rfl) rfl rfl ?_
  refine ax_aload_n (i := 0) dX4_init_9 rfl rfl rfl ?_
  refine ax_newLst (q := 7) dX4_init_10 nw_X4_15 (by decide) h39 ?_
  refine ax_dup dX4_init_13 rfl ?_
  refine ax_invI (n := 0) (As := []) dX4_init_14 cb_Jx4a65c_init_da8c8 ci_X4_17.1 ci_X4_17.2 rfl rfl rfl ⟨Nat.le_of_ble_eq_true rfl, Nat.le_of_ble_eq_true rfl⟩ (Nat.le_of_ble_eq_true rfl) rfl (t_lsInit (q := 7) (el := nm 7) (by decide) (congrArg (· + 1) h39) rfl ?_)
  refine ax_putR dX4_init_17 fl_X4_18 rfl rfl rfl (Or.inr ⟨rfl, rfl, rfl⟩) ?_
  refine ax_aload_n (i := 0) dX4_init_20 rfl rfl rfl ?_
  refine ax_newLst (q := 8) dX4_init_21 nw_X4_15 (by decide) h40 ?_
  refine ax_dup dX4_init_24 rfl ?_
  refine ax_invI (n := 0) (As := []) dX4_init_25 cb_Jx4a65c_init_da8c8 ci_X4_17.1 ci_X4_17.2 rfl rfl rfl ⟨Nat.le_of_ble_eq_true rfl, Nat.le_of_ble_eq_true rfl⟩ (Nat.le_of_ble_eq_true rfl) rfl (t_lsInit (q := 8) (el := nm 10) (by decide) (congrArg (· + 1) h40) rfl ?_)
  refine ax_putR dX4_init_28 fl_X4_22 rfl rfl rfl (Or.inr ⟨rfl, rfl, rfl⟩) ?_
  refine ax_aload_n (i := 0) dX4_init_31 rfl rfl rfl ?_
  refine ax_bipush (v := 8) dX4_init_32 (by decide) ?_
  refine ax_newI (f := 27) (n := 8) dX4_init_34 ka_int rfl rfl (by decide) (by decide) (by decide) ?_
  rw [show sC (wR (wK (wK (wNew (wR (wK (wK (wNew (wI S 5 0 0 0) 39 0) 7 (1000000, fun _ => nm (32+7) 0)) 7 (0, nm 7)) 5 0 1 (some (nm 39 0))) 40 0) 8 (1000000, fun _ => nm (32+8) 0)) 8 (0, nm 10)) 5 0 2 (some (nm 40 0))) 27 = 0 from h27]
  refine ax_putR dX4_init_36 fl_X4_25 rfl rfl rfl (Or.inr ⟨rfl, rfl, rfl⟩) ?_
  refine ax_aload_n (i := 0) dX4_init_39 rfl rfl rfl ?_
  refine ax_bipush (v := 8) dX4_init_40 (by decide) ?_
  refine ax_newI (f := 28) (n := 8) dX4_init_42 ka_int rfl rfl (by decide) (by decide) (by decide) ?_
  rw [show sC (wR (wNew (wR (wK (wK (wNew (wR (wK (wK (wNew (wI S 5 0 0 0) 39 0) 7 (1000000, fun _ => nm (32+7) 0)) 7 (0, nm 7)) 5 0 1 (some (nm 39 0))) 40 0) 8 (1000000, fun _ => nm (32+8) 0)) 8 (0, nm 10)) 5 0 2 (some (nm 40 0))) 27 8) 5 0 3 (some (nm 27 0))) 28 = 0 from h28]
  refine ax_putR dX4_init_44 fl_X4_29 rfl rfl rfl (Or.inr ⟨rfl, rfl, rfl⟩) ?_
  refine ax_vret dX4_init_47 rfl ?_
  exact h
