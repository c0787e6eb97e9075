set_option maxHeartbeats 400000 in
set_option maxRecDepth 100000 in
theorem c_iAlm {E : awE} {S : awS} {Q : Option Value → awS → Nat → Nat → Prop} {a r s g : Nat} {n t : Int32} (h : Q none (wI (wR (wR (wR (wI (wI (wI (wI (wI (wI (wI (wI (wI S 1 a 5 0) 1 a 6 0) 1 a 7 0) 1 a 8 0) 1 a 9 0) 1 a 10 0) 1 a 11 0) 1 a 12 0) 1 a 0 n) 1 a 1 (some (nm 6 r))) 1 a 2 (some (nm 9 s))) 1 a 3 (some (nm 3 g))) 1 a 4 t) 0 0) : awT true E m_X0_init [.ref (nm 1 a), .int n, .ref (nm 6 r), .ref (nm 9 s), .ref (nm 3 g), .int t] S Q := by
  refine awT.of (by decide) (by decide) (Nat.le_of_ble_eq_true rfl) ?_
  refine ax_aload_n (i := 0) dX0_init_0 rfl rfl rfl ?_
  refine ax_objInit dX0_init_1 ki_X0_1 ko_1 ko_2 ⟨Nat.le_of_ble_eq_true rfl, Nat.le_of_ble_eq_true rfl⟩ (Nat.le_of_ble_eq_true rfl) ?_
  refine ax_aload_n (i := 0) dX0_init_4 rfl rfl rfl ?_
  refine ax_iconst (v := 0) dX0_init_5 (by decide) ?_
  refine ax_putI dX0_init_6 fl_X0_7 rfl rfl rfl (Or.inl rfl) rfl rfl ?_
  refine ax_aload_n (i := 0) dX0_init_9 rfl rfl rfl ?_
  refine ax_iconst (v := 0) dX0_init_10 (by decide) ?_
  refine ax_putI dX0_init_11 fl_X0_13 rfl rfl rfl (Or.inl rfl) rfl rfl ?_
  refine ax_aload_n (i := 0) dX0_init_14 rfl rfl rfl ?_
  refine ax_iconst (v := 0) dX0_init_15 (by decide) ?_
  refine ax_putI dX0_init_16 fl_X0_17 rfl rfl rfl (Or.inl rfl) rfl rfl ?_
  refine ax_aload_n (i := 0) dX0_init_19 rfl rfl rfl ?_
  refine ax_iconst (v := 0) dX0_init_20 (by decide) ?_
  refine ax_putI dX0_init_21 fl_X0_20 rfl rfl rfl (Or.inl rfl) rfl rfl ?_
  refine ax_aload_n (i := 0) dX0_init_24 rfl rfl rfl ?_
  refine ax_iconst (v := 0) dX0_init_25 (by decide) ?_
  refine ax_putI dX0_init_26 fl_X0_23 rfl rfl rfl (Or.inl rfl) rfl rfl ?_
  refine ax_aload_n (i := 0) dX0_init_29 rfl rfl rfl ?_
  refine ax_iconst (v := 0) dX0_init_30 (by decide) ?_
  refine ax_putI dX0_init_31 fl_X0_26 rfl rfl rfl (Or.inl rfl) rfl rfl ?_
  refine ax_aload_n (i := 0) dX0_init_34 rfl rfl rfl ?_
  refine ax_iconst (v := 0) dX0_init_35 (by decide) ?_
  refine ax_putI dX0_init_36 fl_X0_29 rfl rfl rfl (Or.inl rfl) rfl rfl ?_
  refine ax_aload_n (i := 0) dX0_init_39 rfl rfl rfl ?_
  refine ax_iconst (v := 0) dX0_init_40 (by decide) ?_
  refine ax_putI dX0_init_41 fl_X0_32 rfl rfl rfl (Or.inl rfl) rfl rfl ?_
  refine ax_aload_n (i := 0) dX0_init_44 rfl rfl rfl ?_
  refine ax_iload_n (i := 1) dX0_init_45 rfl rfl ?_
  refine ax_putI dX0_init_46 fl_X0_35 rfl rfl rfl (Or.inr ⟨rfl, rfl, rfl⟩) rfl rfl ?_
  refine ax_aload_n (i := 0) dX0_init_49 rfl rfl rfl ?_
  refine ax_aload_n (i := 2) dX0_init_50 rfl rfl rfl ?_
  refine ax_putR dX0_init_51 fl_X0_38 rfl rfl rfl (Or.inr ⟨rfl, rfl, rfl⟩) ?_
  refine ax_aload_n (i := 0) dX0_init_54 rfl rfl rfl ?_
  refine ax_aload_n (i := 3) dX0_init_55 rfl rfl rfl ?_
  refine ax_putR dX0_init_56 fl_X0_42 rfl rfl rfl (Or.inr ⟨rfl, rfl, rfl⟩) ?_
  refine ax_aload_n (i := 0) dX0_init_59 rfl rfl rfl ?_
  refine ax_aload dX0_init_60 rfl rfl ?_
  refine ax_putR dX0_init_62 fl_X0_46 rfl rfl rfl (Or.inr ⟨rfl, rfl, rfl⟩) ?_
  refine ax_aload_n (i := 0) dX0_init_65 rfl rfl rfl ?_
  refine ax_iload dX0_init_66 rfl ?_
  refine ax_putI dX0_init_68 fl_X0_50 rfl rfl rfl (Or.inr ⟨rfl, rfl, rfl⟩) rfl rfl ?_
  refine ax_vret dX0_init_71 rfl ?_
  exact h
