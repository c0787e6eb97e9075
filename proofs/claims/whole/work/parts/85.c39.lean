set_option maxHeartbeats 4000000 in
set_option maxRecDepth 100000 in
theorem c_tellLasting {E : awE} {S : awS} {Q : Option Value → awS → Nat → Nat → Prop} {a : Nat} (h : Q none (wI (wI (wI S 1 a 9 (sI S 1 a 9 + 1)) 1 a 10 1) 1 a 11 1) 0 0) : awT true E m_X0_tellLasting [.ref (nm 1 a)] S Q := by
  refine awT.of (by decide) (by decide) (Nat.le_of_ble_eq_true rfl) ?_
  refine ax_aload_n (i := 0) dX0_tellLasting_0 rfl rfl rfl ?_
  refine ax_dup dX0_tellLasting_1 rfl ?_
  refine ax_getI dX0_tellLasting_2 fl_X0_23 rfl rfl rfl ?_
  refine ax_iconst (v := 1) dX0_tellLasting_5 (by decide) ?_
  refine ax_iadd dX0_tellLasting_6 ?_
  refine ax_putI dX0_tellLasting_7 fl_X0_23 rfl rfl rfl (Or.inl rfl) rfl rfl ?_
  refine ax_aload_n (i := 0) dX0_tellLasting_10 rfl rfl rfl ?_
  refine ax_iconst (v := 1) dX0_tellLasting_11 (by decide) ?_
  refine ax_putI dX0_tellLasting_12 fl_X0_26 rfl rfl rfl (Or.inl rfl) rfl rfl ?_
  refine ax_aload_n (i := 0) dX0_tellLasting_15 rfl rfl rfl ?_
  refine ax_iconst (v := 1) dX0_tellLasting_16 (by decide) ?_
  refine ax_putI dX0_tellLasting_17 fl_X0_29 rfl rfl rfl (Or.inl rfl) rfl rfl ?_
  refine ax_vret dX0_tellLasting_20 rfl ?_
  exact h
set_option maxHeartbeats 4000000 in
set_option maxRecDepth 100000 in
theorem c_tellEnd {E : awE} {S : awS} {Q : Option Value → awS → Nat → Nat → Prop} {a : Nat} (h : Q none (wI (wI S 1 a 9 (sI S 1 a 9 + 1)) 1 a 12 1) 0 0) : awT true E m_X0_tellEnd [.ref (nm 1 a)] S Q := by
  refine awT.of (by decide) (by decide) (Nat.le_of_ble_eq_true rfl) ?_
  refine ax_aload_n (i := 0) dX0_tellEnd_0 rfl rfl rfl ?_
  refine ax_dup dX0_tellEnd_1 rfl ?_
  refine ax_getI dX0_tellEnd_2 fl_X0_23 rfl rfl rfl ?_
  refine ax_iconst (v := 1) dX0_tellEnd_5 (by decide) ?_
  refine ax_iadd dX0_tellEnd_6 ?_
  refine ax_putI dX0_tellEnd_7 fl_X0_23 rfl rfl rfl (Or.inl rfl) rfl rfl ?_
  refine ax_aload_n (i := 0) dX0_tellEnd_10 rfl rfl rfl ?_
  refine ax_iconst (v := 1) dX0_tellEnd_11 (by decide) ?_
  refine ax_putI dX0_tellEnd_12 fl_X0_32 rfl rfl rfl (Or.inl rfl) rfl rfl ?_
  refine ax_vret dX0_tellEnd_15 rfl ?_
  exact h
