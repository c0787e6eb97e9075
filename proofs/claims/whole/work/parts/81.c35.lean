set_option maxHeartbeats 400000 in
set_option maxRecDepth 100000 in
theorem c_forget {E : awE} {S : awS} {Q : Option Value → awS → Nat → Nat → Prop} {g : Nat} (h : Q none (wI (wI (wI S 3 g 4 0) 3 g 5 0) 3 g 6 0) 0 0) : awT true E m_X2_forget [.ref (nm 3 g)] S Q := by
  refine awT.of (by decide) (by decide) (Nat.le_of_ble_eq_true rfl) ?_
  refine ax_aload_n (i := 0) dX2_forget_0 rfl rfl rfl ?_
  refine ax_iconst (v := 0) dX2_forget_1 (by decide) ?_
  refine ax_putI dX2_forget_2 fl_X2_19 rfl rfl rfl (Or.inl rfl) rfl rfl ?_
  refine ax_aload_n (i := 0) dX2_forget_5 rfl rfl rfl ?_
  refine ax_iconst (v := 0) dX2_forget_6 (by decide) ?_
  refine ax_putI dX2_forget_7 fl_X2_22 rfl rfl rfl (Or.inl rfl) rfl rfl ?_
  refine ax_aload_n (i := 0) dX2_forget_10 rfl rfl rfl ?_
  refine ax_iconst (v := 0) dX2_forget_11 (by decide) ?_
  refine ax_putI dX2_forget_12 fl_X2_25 rfl rfl rfl (Or.inl rfl) rfl rfl ?_
  refine ax_vret dX2_forget_15 rfl ?_
  exact h
noncomputable def seeS (S : awS) (g x : Nat) : awS :=
  let A := wI (wI S 3 g 4 (bC (¬ sI S 3 g 4 = 0 ∨ sI S 1 x 5 = 0))) 3 g 5 (bC (¬ sI S 3 g 5 = 0 ∨ 0 < sI S 1 x 8))
  if (0 < sI S 1 x 8 ∧ sI S 1 x 10 = 0) ∧ (sI S 3 g 6 = 0 ∨ sI S 1 x 8 < sI S 3 g 6) then wI A 3 g 6 (sI S 1 x 8) else A

