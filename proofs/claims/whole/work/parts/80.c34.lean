set_option maxHeartbeats 400000 in
set_option maxRecDepth 100000 in
theorem c_end {E : awE} {S : awS} {Q : Option Value → awS → Nat → Nat → Prop} {a : Nat} {t : Int32} (h : Q none (wI (wI (wI (wI S 1 a 5 t) 1 a 6 0) 1 a 7 0) 1 a 8 0) 0 0) : awT true E m_X0_end [.ref (nm 1 a), .int t] S Q := by
  refine awT.of (by decide) (by decide) (Nat.le_of_ble_eq_true rfl) ?_
  refine ax_aload_n (i := 0) dX0_end_0 rfl rfl rfl ?_
  refine ax_iload_n (i := 1) dX0_end_1 rfl rfl ?_
  refine ax_putI dX0_end_2 fl_X0_7 rfl rfl rfl (Or.inl rfl) rfl rfl ?_
  refine ax_aload_n (i := 0) dX0_end_5 rfl rfl rfl ?_
  refine ax_iconst (v := 0) dX0_end_6 (by decide) ?_
  refine ax_putI dX0_end_7 fl_X0_13 rfl rfl rfl (Or.inl rfl) rfl rfl ?_
  refine ax_aload_n (i := 0) dX0_end_10 rfl rfl rfl ?_
  refine ax_iconst (v := 0) dX0_end_11 (by decide) ?_
  refine ax_putI dX0_end_12 fl_X0_17 rfl rfl rfl (Or.inl rfl) rfl rfl ?_
  refine ax_aload_n (i := 0) dX0_end_15 rfl rfl rfl ?_
  refine ax_iconst (v := 0) dX0_end_16 (by decide) ?_
  refine ax_putI dX0_end_17 fl_X0_20 rfl rfl rfl (Or.inl rfl) rfl rfl ?_
  refine ax_vret dX0_end_20 rfl ?_
  exact h
set_option maxHeartbeats 400000 in
set_option maxRecDepth 100000 in
theorem c_note {E : awE} {S : awS} {Q : Option Value → awS → Nat → Nat → Prop} {w : Nat} {v : Int32} (h0 : v = -1 → Q none (wI S 11 w 0 v) 0 0) (h1 : ¬ v = -1 → v = 1 → Q none (wI (wI (wI (wI S 11 w 0 v) 11 w 1 v) 11 w 2 (sI S 11 w 2 + 1)) 11 w 3 0) 0 0) (h2 : ¬ v = -1 → ¬ v = 1 → Q none (wI (wI (wI (wI S 11 w 0 v) 11 w 1 v) 11 w 2 0) 11 w 3 (sI S 11 w 3 + 1)) 0 0) : awT true E m_X10_note [.ref (nm 11 w), .int v] S Q := by
  refine awT.of (by decide) (by decide) (Nat.le_of_ble_eq_true rfl) ?_
  have e2 : sI (wI (wI S 11 w 0 v) 11 w 1 v) 11 w 2 = sI S 11 w 2 := by simp [sI_wI]
  have e3 : sI (wI (wI (wI S 11 w 0 v) 11 w 1 v) 11 w 2 0) 11 w 3 = sI S 11 w 3 := by simp [sI_wI]
  refine ax_aload_n (i := 0) dX10_note_0 rfl rfl rfl ?_
  refine ax_iload_n (i := 1) dX10_note_1 rfl rfl ?_
  refine ax_putI dX10_note_2 fl_X10_9 rfl rfl rfl (Or.inl rfl) rfl rfl ?_
  refine ax_iload_n (i := 1) dX10_note_5 rfl rfl ?_
  refine ax_iconst (v := -1) dX10_note_6 (by decide) ?_
  refine ax_icmp_ne (tgt := 11) dX10_note_7 (by decide) (fun c_7 => ?_) (fun c_7 => ?_)
  · refine ax_aload_n (i := 0) dX10_note_11 rfl rfl rfl ?_
    refine ax_iload_n (i := 1) dX10_note_12 rfl rfl ?_
    refine ax_putI dX10_note_13 fl_X10_15 rfl rfl rfl (Or.inl rfl) rfl rfl ?_
    refine ax_aload_n (i := 0) dX10_note_16 rfl rfl rfl ?_
    refine ax_iload_n (i := 1) dX10_note_17 rfl rfl ?_
    refine ax_iconst (v := 1) dX10_note_18 (by decide) ?_
    refine ax_icmp_ne (tgt := 31) dX10_note_19 (by decide) (fun c_19 => ?_) (fun c_19 => ?_)
    · refine ax_iconst (v := 0) dX10_note_31 (by decide) ?_
      refine ax_putI dX10_note_32 fl_X10_18 rfl rfl rfl (Or.inl rfl) rfl rfl ?_
      refine ax_aload_n (i := 0) dX10_note_35 rfl rfl rfl ?_
      refine ax_iload_n (i := 1) dX10_note_36 rfl rfl ?_
      refine ax_iconst (v := 1) dX10_note_37 (by decide) ?_
      refine ax_icmp_ne (tgt := 45) dX10_note_38 (by decide) (fun c_38 => ?_) (fun c_38 => ?_)
      · refine ax_aload_n (i := 0) dX10_note_45 rfl rfl rfl ?_
        refine ax_getI dX10_note_46 fl_X10_21 rfl rfl rfl ?_
        refine ax_iconst (v := 1) dX10_note_49 (by decide) ?_
        refine ax_iadd dX10_note_50 ?_
        refine ax_putI dX10_note_51 fl_X10_21 rfl rfl rfl (Or.inl rfl) rfl rfl ?_
        refine ax_vret dX10_note_54 rfl ?_
        rw [e3]
        exact h2 c_7 c_19
      · refine ax_iconst (v := 0) dX10_note_41 (by decide) ?_
        refine ax_goto (tgt := 51) dX10_note_42 (by decide) ?_
        refine ax_putI dX10_note_51 fl_X10_21 rfl rfl rfl (Or.inl rfl) rfl rfl ?_
        refine ax_vret dX10_note_54 rfl ?_
        exact absurd (Classical.not_not.mp c_38) c_19
    · refine ax_aload_n (i := 0) dX10_note_22 rfl rfl rfl ?_
      refine ax_getI dX10_note_23 fl_X10_18 rfl rfl rfl ?_
      refine ax_iconst (v := 1) dX10_note_26 (by decide) ?_
      refine ax_iadd dX10_note_27 ?_
      refine ax_goto (tgt := 32) dX10_note_28 (by decide) ?_
      refine ax_putI dX10_note_32 fl_X10_18 rfl rfl rfl (Or.inl rfl) rfl rfl ?_
      refine ax_aload_n (i := 0) dX10_note_35 rfl rfl rfl ?_
      refine ax_iload_n (i := 1) dX10_note_36 rfl rfl ?_
      refine ax_iconst (v := 1) dX10_note_37 (by decide) ?_
      refine ax_icmp_ne (tgt := 45) dX10_note_38 (by decide) (fun c_38 => ?_) (fun c_38 => ?_)
      · refine ax_aload_n (i := 0) dX10_note_45 rfl rfl rfl ?_
        refine ax_getI dX10_note_46 fl_X10_21 rfl rfl rfl ?_
        refine ax_iconst (v := 1) dX10_note_49 (by decide) ?_
        refine ax_iadd dX10_note_50 ?_
        refine ax_putI dX10_note_51 fl_X10_21 rfl rfl rfl (Or.inl rfl) rfl rfl ?_
        refine ax_vret dX10_note_54 rfl ?_
        exact absurd (Classical.not_not.mp c_19) c_38
      · refine ax_iconst (v := 0) dX10_note_41 (by decide) ?_
        refine ax_goto (tgt := 51) dX10_note_42 (by decide) ?_
        refine ax_putI dX10_note_51 fl_X10_21 rfl rfl rfl (Or.inl rfl) rfl rfl ?_
        refine ax_vret dX10_note_54 rfl ?_
        rw [e2]
        exact h1 c_7 (Classical.not_not.mp c_19)
  · refine ax_vret dX10_note_10 rfl ?_
    exact h0 (Classical.not_not.mp c_7)
