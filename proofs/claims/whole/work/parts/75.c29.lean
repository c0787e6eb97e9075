set_option maxHeartbeats 400000 in
set_option maxRecDepth 100000 in
theorem c_mark {E : awE} {S : awS} {Q : Option Value → awS → Nat → Nat → Prop} {a : Nat} {v w t : Int32} (hv : v = 0 ∨ v = 1) (hw : w = 0 ∨ w = 1) (h1 : ¬ v = 0 ∨ ¬ w = 0 → Q none (wI (wI (wI S 1 a 6 v) 1 a 7 w) 1 a 8 0) 0 0) (h2 : v = 0 → w = 0 → sI S 1 a 8 = 0 → Q none (wI (wI (wI (wI S 1 a 6 v) 1 a 7 w) 1 a 8 t) 1 a 10 0) 0 0) (h3 : v = 0 → w = 0 → ¬ sI S 1 a 8 = 0 → Q none (wI (wI S 1 a 6 v) 1 a 7 w) 0 0) : awT true E m_X0_mark [.ref (nm 1 a), .int v, .int w, .int t] S Q := by
  refine awT.of (by decide) (by decide) (Nat.le_of_ble_eq_true rfl) ?_
  have e6 : sI (wI (wI S 1 a 6 v) 1 a 7 w) 1 a 6 = v := by simp [sI_wI]
  have e7 : sI (wI (wI S 1 a 6 v) 1 a 7 w) 1 a 7 = w := by simp [sI_wI]
  have e8 : sI (wI (wI S 1 a 6 v) 1 a 7 w) 1 a 8 = sI S 1 a 8 := by simp [sI_wI]
  have f6 : fits (oTy 1 6) (.int v) = true := by
    rcases hv with e | e
    · rw [e]; rfl
    · rw [e]; rfl
  have n6 : narrow (oTy 1 6) (Value.int v) = Value.int v := by
    rcases hv with e | e
    · rw [e]; rfl
    · rw [e]; rfl
  have n7 : narrow (oTy 1 7) (Value.int w) = Value.int w := by
    rcases hw with e | e
    · rw [e]; rfl
    · rw [e]; rfl
  have f7 : fits (oTy 1 7) (.int w) = true := by
    rcases hw with e | e
    · rw [e]; rfl
    · rw [e]; rfl
  refine ax_aload_n (i := 0) dX0_mark_0 rfl rfl rfl ?_
  refine ax_iload_n (i := 1) dX0_mark_1 rfl rfl ?_
  refine ax_putI dX0_mark_2 fl_X0_13 rfl rfl rfl (Or.inl rfl) n6 f6 ?_
  refine ax_aload_n (i := 0) dX0_mark_5 rfl rfl rfl ?_
  refine ax_iload_n (i := 2) dX0_mark_6 rfl rfl ?_
  refine ax_putI dX0_mark_7 fl_X0_17 rfl rfl rfl (Or.inl rfl) n7 f7 ?_
  refine ax_aload_n (i := 0) dX0_mark_10 rfl rfl rfl ?_
  refine ax_getI dX0_mark_11 fl_X0_13 rfl rfl rfl ?_
  refine ax_if_ne (tgt := 24) dX0_mark_14 (by decide) (fun c_14 => ?_) (fun c_14 => ?_)
  · refine ax_aload_n (i := 0) dX0_mark_24 rfl rfl rfl ?_
    refine ax_iconst (v := 0) dX0_mark_25 (by decide) ?_
    refine ax_putI dX0_mark_26 fl_X0_20 rfl rfl rfl (Or.inl rfl) rfl rfl ?_
    refine ax_goto (tgt := 49) dX0_mark_29 (by decide) ?_
    refine ax_vret dX0_mark_49 rfl ?_
    rw [e6] at c_14
    exact h1 (Or.inl c_14)
  · refine ax_aload_n (i := 0) dX0_mark_17 rfl rfl rfl ?_
    refine ax_getI dX0_mark_18 fl_X0_17 rfl rfl rfl ?_
    refine ax_if_eq (tgt := 32) dX0_mark_21 (by decide) (fun c_21 => ?_) (fun c_21 => ?_)
    · refine ax_aload_n (i := 0) dX0_mark_32 rfl rfl rfl ?_
      refine ax_getI dX0_mark_33 fl_X0_20 rfl rfl rfl ?_
      refine ax_if_ne (tgt := 49) dX0_mark_36 (by decide) (fun c_36 => ?_) (fun c_36 => ?_)
      · refine ax_vret dX0_mark_49 rfl ?_
        rw [e6] at c_14
        rw [e7] at c_21
        rw [e8] at c_36
        exact h3 (Classical.not_not.mp c_14) c_21 c_36
      · refine ax_aload_n (i := 0) dX0_mark_39 rfl rfl rfl ?_
        refine ax_iload_n (i := 3) dX0_mark_40 rfl rfl ?_
        refine ax_putI dX0_mark_41 fl_X0_20 rfl rfl rfl (Or.inl rfl) rfl rfl ?_
        refine ax_aload_n (i := 0) dX0_mark_44 rfl rfl rfl ?_
        refine ax_iconst (v := 0) dX0_mark_45 (by decide) ?_
        refine ax_putI dX0_mark_46 fl_X0_26 rfl rfl rfl (Or.inl rfl) rfl rfl ?_
        refine ax_vret dX0_mark_49 rfl ?_
        rw [e6] at c_14
        rw [e7] at c_21
        rw [e8] at c_36
        exact h2 (Classical.not_not.mp c_14) c_21 (Classical.not_not.mp c_36)
    · refine ax_aload_n (i := 0) dX0_mark_24 rfl rfl rfl ?_
      refine ax_iconst (v := 0) dX0_mark_25 (by decide) ?_
      refine ax_putI dX0_mark_26 fl_X0_20 rfl rfl rfl (Or.inl rfl) rfl rfl ?_
      refine ax_goto (tgt := 49) dX0_mark_29 (by decide) ?_
      refine ax_vret dX0_mark_49 rfl ?_
      rw [e6] at c_14
      rw [e7] at c_21
      exact h1 (Or.inr c_21)
