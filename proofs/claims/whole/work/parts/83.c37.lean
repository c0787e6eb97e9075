set_option maxHeartbeats 400000 in
set_option maxRecDepth 100000 in
theorem c_iGrp {E : awE} {S : awS} {Q : Option Value → awS → Nat → Nat → Prop} {g r s : Nat} (h : Q none (wR (wR (wI (wI (wI (wI (wI S 3 g 2 0) 3 g 3 0) 3 g 4 0) 3 g 5 0) 3 g 6 0) 3 g 0 (some (nm 6 r))) 3 g 1 (some (nm 9 s))) 0 0) : awT true E m_X2_init [.ref (nm 3 g), .ref (nm 6 r), .ref (nm 9 s)] S Q := by
  refine awT.of (by decide) (by decide) (Nat.le_of_ble_eq_true rfl) ?_
  refine ax_aload_n (i := 0) dX2_init_0 rfl rfl rfl ?_
  refine ax_objInit dX2_init_1 ki_X2_3 ko_1 ko_2 ⟨Nat.le_of_ble_eq_true rfl, Nat.le_of_ble_eq_true rfl⟩ (Nat.le_of_ble_eq_true rfl) ?_
  refine ax_aload_n (i := 0) dX2_init_4 rfl rfl rfl ?_
  refine ax_iconst (v := 0) dX2_init_5 (by decide) ?_
  refine ax_putI dX2_init_6 fl_X2_9 rfl rfl rfl (Or.inl rfl) rfl rfl ?_
  refine ax_aload_n (i := 0) dX2_init_9 rfl rfl rfl ?_
  refine ax_iconst (v := 0) dX2_init_10 (by decide) ?_
  refine ax_putI dX2_init_11 fl_X2_15 rfl rfl rfl (Or.inl rfl) rfl rfl ?_
  refine ax_aload_n (i := 0) dX2_init_14 rfl rfl rfl ?_
  refine ax_iconst (v := 0) dX2_init_15 (by decide) ?_
  refine ax_putI dX2_init_16 fl_X2_19 rfl rfl rfl (Or.inl rfl) rfl rfl ?_
  refine ax_aload_n (i := 0) dX2_init_19 rfl rfl rfl ?_
  refine ax_iconst (v := 0) dX2_init_20 (by decide) ?_
  refine ax_putI dX2_init_21 fl_X2_22 rfl rfl rfl (Or.inl rfl) rfl rfl ?_
  refine ax_aload_n (i := 0) dX2_init_24 rfl rfl rfl ?_
  refine ax_iconst (v := 0) dX2_init_25 (by decide) ?_
  refine ax_putI dX2_init_26 fl_X2_25 rfl rfl rfl (Or.inl rfl) rfl rfl ?_
  refine ax_aload_n (i := 0) dX2_init_29 rfl rfl rfl ?_
  refine ax_aload_n (i := 1) dX2_init_30 rfl rfl rfl ?_
  refine ax_putR dX2_init_31 fl_X2_28 rfl rfl rfl (Or.inr ⟨rfl, rfl, rfl⟩) ?_
  refine ax_aload_n (i := 0) dX2_init_34 rfl rfl rfl ?_
  refine ax_aload_n (i := 2) dX2_init_35 rfl rfl rfl ?_
  refine ax_putR dX2_init_36 fl_X2_32 rfl rfl rfl (Or.inr ⟨rfl, rfl, rfl⟩) ?_
  refine ax_vret dX2_init_39 rfl ?_
  exact h
