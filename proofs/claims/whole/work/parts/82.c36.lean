set_option maxHeartbeats 400000 in
set_option maxRecDepth 100000 in
theorem c_see {E : awE} {S : awS} {Q : Option Value → awS → Nat → Nat → Prop} {g x : Nat} (h : Q none (seeS S g x) 0 0) : awT true E m_X2_see [.ref (nm 3 g), .ref (nm 1 x)] S Q := by
  refine awT.of (by decide) (by decide) (Nat.le_of_ble_eq_true rfl) ?_
  have e5 : ∀ u, sI (wI S 3 g 4 u) 3 g 5 = sI S 3 g 5 := fun u => by simp [sI_wI]
  have e6 : ∀ u v, sI (wI (wI S 3 g 4 u) 3 g 5 v) 3 g 6 = sI S 3 g 6 := fun u v => by simp [sI_wI]
  refine ax_aload_n (i := 0) dX2_see_0 rfl rfl rfl ?_
  refine ax_aload_n (i := 0) dX2_see_1 rfl rfl rfl ?_
  refine ax_getI dX2_see_2 fl_X2_19 rfl rfl rfl ?_
  refine ax_if_ne (tgt := 15) dX2_see_5 (by decide) (fun c_5 => ?_) (fun c_5 => ?_)
  · refine ax_iconst (v := 1) dX2_see_15 (by decide) ?_
    refine ax_goto (tgt := 20) dX2_see_16 (by decide) ?_
    refine ax_putI dX2_see_20 fl_X2_19 rfl rfl rfl (Or.inl rfl) rfl rfl ?_
    refine ax_aload_n (i := 0) dX2_see_23 rfl rfl rfl ?_
    refine ax_aload_n (i := 0) dX2_see_24 rfl rfl rfl ?_
    refine ax_getI dX2_see_25 fl_X2_22 rfl rfl rfl ?_
    refine ax_if_ne (tgt := 38) dX2_see_28 (by decide) (fun c_28 => ?_) (fun c_28 => ?_)
    · refine ax_iconst (v := 1) dX2_see_38 (by decide) ?_
      refine ax_goto (tgt := 43) dX2_see_39 (by decide) ?_
      refine ax_putI dX2_see_43 fl_X2_22 rfl rfl rfl (Or.inl rfl) rfl rfl ?_
      refine ax_aload_n (i := 1) dX2_see_46 rfl rfl rfl ?_
      refine ax_invV (c := 1) (n := 0) (As := []) dX2_see_47 cb_X0_isFresh cv_X2_58.1 cv_X2_58.2.1 cv_X2_58.2.2 rfl (by decide) rfl ⟨Nat.le_of_ble_eq_true rfl, Nat.le_of_ble_eq_true rfl⟩ (Nat.le_of_ble_eq_true rfl) rfl (c_isFresh (fun c_47 => ?_) (fun c_47 => ?_))
      · refine ax_if_eq (tgt := 79) dX2_see_50 (by decide) (fun z => absurd z (by decide)) (fun _ => ?_)
        refine ax_aload_n (i := 0) dX2_see_53 rfl rfl rfl ?_
        refine ax_getI dX2_see_54 fl_X2_25 rfl rfl rfl ?_
        refine ax_if_eq (tgt := 71) dX2_see_57 (by decide) (fun c_57 => ?_) (fun c_57 => ?_)
        · refine ax_aload_n (i := 0) dX2_see_71 rfl rfl rfl ?_
          refine ax_aload_n (i := 1) dX2_see_72 rfl rfl rfl ?_
          refine ax_getI dX2_see_73 fl_X2_61 rfl rfl rfl ?_
          refine ax_putI dX2_see_76 fl_X2_25 rfl rfl rfl (Or.inl rfl) rfl rfl ?_
          refine ax_vret dX2_see_79 rfl ?_
          rw [e5] at c_28
          rw [e6] at c_57
          have b4 : bC (¬ sI S 3 g 4 = 0 ∨ sI S 1 x 5 = 0) = 1 := bC_t (Or.inl c_5)
          have b5 : bC (¬ sI S 3 g 5 = 0 ∨ 0 < sI S 1 x 8) = 1 := bC_t (Or.inl c_28)
          have eS : seeS S g x = (wI (wI (wI S 3 g 4 1) 3 g 5 1) 3 g 6 (sI S 1 x 8)) := by
            unfold seeS
            simp only []
            rw [b4, b5]
            exact if_pos ⟨c_47, Or.inl c_57⟩
          rw [eS] at h
          exact h
        · refine ax_aload_n (i := 1) dX2_see_60 rfl rfl rfl ?_
          refine ax_getI dX2_see_61 fl_X2_61 rfl rfl rfl ?_
          refine ax_aload_n (i := 0) dX2_see_64 rfl rfl rfl ?_
          refine ax_getI dX2_see_65 fl_X2_25 rfl rfl rfl ?_
          refine ax_icmp_ge (tgt := 79) dX2_see_68 (by decide) (fun c_68 => ?_) (fun c_68 => ?_)
          · refine ax_vret dX2_see_79 rfl ?_
            rw [e5] at c_28
            rw [e6] at c_57
            rw [e6] at c_68
            have b4 : bC (¬ sI S 3 g 4 = 0 ∨ sI S 1 x 5 = 0) = 1 := bC_t (Or.inl c_5)
            have b5 : bC (¬ sI S 3 g 5 = 0 ∨ 0 < sI S 1 x 8) = 1 := bC_t (Or.inl c_28)
            have eS : seeS S g x = (wI (wI S 3 g 4 1) 3 g 5 1) := by
              unfold seeS
              simp only []
              rw [b4, b5]
              exact if_neg (fun z => z.2.elim c_57 (Int32.not_lt.mpr c_68))
            rw [eS] at h
            exact h
          · refine ax_aload_n (i := 0) dX2_see_71 rfl rfl rfl ?_
            refine ax_aload_n (i := 1) dX2_see_72 rfl rfl rfl ?_
            refine ax_getI dX2_see_73 fl_X2_61 rfl rfl rfl ?_
            refine ax_putI dX2_see_76 fl_X2_25 rfl rfl rfl (Or.inl rfl) rfl rfl ?_
            refine ax_vret dX2_see_79 rfl ?_
            rw [e5] at c_28
            rw [e6] at c_57
            rw [e6] at c_68
            have b4 : bC (¬ sI S 3 g 4 = 0 ∨ sI S 1 x 5 = 0) = 1 := bC_t (Or.inl c_5)
            have b5 : bC (¬ sI S 3 g 5 = 0 ∨ 0 < sI S 1 x 8) = 1 := bC_t (Or.inl c_28)
            have eS : seeS S g x = (wI (wI (wI S 3 g 4 1) 3 g 5 1) 3 g 6 (sI S 1 x 8)) := by
              unfold seeS
              simp only []
              rw [b4, b5]
              exact if_pos ⟨c_47, Or.inr (Int32.not_le.mp c_68)⟩
            rw [eS] at h
            exact h
      · refine ax_if_eq (tgt := 79) dX2_see_50 (by decide) (fun _ => ?_) (fun z => absurd (by decide) z)
        refine ax_vret dX2_see_79 rfl ?_
        rw [e5] at c_28
        have b4 : bC (¬ sI S 3 g 4 = 0 ∨ sI S 1 x 5 = 0) = 1 := bC_t (Or.inl c_5)
        have b5 : bC (¬ sI S 3 g 5 = 0 ∨ 0 < sI S 1 x 8) = 1 := bC_t (Or.inl c_28)
        have eS : seeS S g x = (wI (wI S 3 g 4 1) 3 g 5 1) := by
          unfold seeS
          simp only []
          rw [b4, b5]
          exact if_neg (fun z => c_47 z.1)
        rw [eS] at h
        exact h
    · refine ax_aload_n (i := 1) dX2_see_31 rfl rfl rfl ?_
      refine ax_invV (c := 1) (n := 0) (As := []) dX2_see_32 cb_X0_isClear cv_X2_55.1 cv_X2_55.2.1 cv_X2_55.2.2 rfl (by decide) rfl ⟨Nat.le_of_ble_eq_true rfl, Nat.le_of_ble_eq_true rfl⟩ (Nat.le_of_ble_eq_true rfl) rfl (c_isClear (fun c_32 => ?_) (fun c_32 => ?_))
      · refine ax_if_eq (tgt := 42) dX2_see_35 (by decide) (fun z => absurd z (by decide)) (fun _ => ?_)
        refine ax_iconst (v := 1) dX2_see_38 (by decide) ?_
        refine ax_goto (tgt := 43) dX2_see_39 (by decide) ?_
        refine ax_putI dX2_see_43 fl_X2_22 rfl rfl rfl (Or.inl rfl) rfl rfl ?_
        refine ax_aload_n (i := 1) dX2_see_46 rfl rfl rfl ?_
        refine ax_invV (c := 1) (n := 0) (As := []) dX2_see_47 cb_X0_isFresh cv_X2_58.1 cv_X2_58.2.1 cv_X2_58.2.2 rfl (by decide) rfl ⟨Nat.le_of_ble_eq_true rfl, Nat.le_of_ble_eq_true rfl⟩ (Nat.le_of_ble_eq_true rfl) rfl (c_isFresh (fun c_47 => ?_) (fun c_47 => ?_))
        · refine ax_if_eq (tgt := 79) dX2_see_50 (by decide) (fun z => absurd z (by decide)) (fun _ => ?_)
          refine ax_aload_n (i := 0) dX2_see_53 rfl rfl rfl ?_
          refine ax_getI dX2_see_54 fl_X2_25 rfl rfl rfl ?_
          refine ax_if_eq (tgt := 71) dX2_see_57 (by decide) (fun c_57 => ?_) (fun c_57 => ?_)
          · refine ax_aload_n (i := 0) dX2_see_71 rfl rfl rfl ?_
            refine ax_aload_n (i := 1) dX2_see_72 rfl rfl rfl ?_
            refine ax_getI dX2_see_73 fl_X2_61 rfl rfl rfl ?_
            refine ax_putI dX2_see_76 fl_X2_25 rfl rfl rfl (Or.inl rfl) rfl rfl ?_
            refine ax_vret dX2_see_79 rfl ?_
            rw [e5] at c_28
            rw [e6] at c_57
            have b4 : bC (¬ sI S 3 g 4 = 0 ∨ sI S 1 x 5 = 0) = 1 := bC_t (Or.inl c_5)
            have b5 : bC (¬ sI S 3 g 5 = 0 ∨ 0 < sI S 1 x 8) = 1 := bC_t (Or.inr c_32)
            have eS : seeS S g x = (wI (wI (wI S 3 g 4 1) 3 g 5 1) 3 g 6 (sI S 1 x 8)) := by
              unfold seeS
              simp only []
              rw [b4, b5]
              exact if_pos ⟨c_47, Or.inl c_57⟩
            rw [eS] at h
            exact h
          · refine ax_aload_n (i := 1) dX2_see_60 rfl rfl rfl ?_
            refine ax_getI dX2_see_61 fl_X2_61 rfl rfl rfl ?_
            refine ax_aload_n (i := 0) dX2_see_64 rfl rfl rfl ?_
            refine ax_getI dX2_see_65 fl_X2_25 rfl rfl rfl ?_
            refine ax_icmp_ge (tgt := 79) dX2_see_68 (by decide) (fun c_68 => ?_) (fun c_68 => ?_)
            · refine ax_vret dX2_see_79 rfl ?_
              rw [e5] at c_28
              rw [e6] at c_57
              rw [e6] at c_68
              have b4 : bC (¬ sI S 3 g 4 = 0 ∨ sI S 1 x 5 = 0) = 1 := bC_t (Or.inl c_5)
              have b5 : bC (¬ sI S 3 g 5 = 0 ∨ 0 < sI S 1 x 8) = 1 := bC_t (Or.inr c_32)
              have eS : seeS S g x = (wI (wI S 3 g 4 1) 3 g 5 1) := by
                unfold seeS
                simp only []
                rw [b4, b5]
                exact if_neg (fun z => z.2.elim c_57 (Int32.not_lt.mpr c_68))
              rw [eS] at h
              exact h
            · refine ax_aload_n (i := 0) dX2_see_71 rfl rfl rfl ?_
              refine ax_aload_n (i := 1) dX2_see_72 rfl rfl rfl ?_
              refine ax_getI dX2_see_73 fl_X2_61 rfl rfl rfl ?_
              refine ax_putI dX2_see_76 fl_X2_25 rfl rfl rfl (Or.inl rfl) rfl rfl ?_
              refine ax_vret dX2_see_79 rfl ?_
              rw [e5] at c_28
              rw [e6] at c_57
              rw [e6] at c_68
              have b4 : bC (¬ sI S 3 g 4 = 0 ∨ sI S 1 x 5 = 0) = 1 := bC_t (Or.inl c_5)
              have b5 : bC (¬ sI S 3 g 5 = 0 ∨ 0 < sI S 1 x 8) = 1 := bC_t (Or.inr c_32)
              have eS : seeS S g x = (wI (wI (wI S 3 g 4 1) 3 g 5 1) 3 g 6 (sI S 1 x 8)) := by
                unfold seeS
                simp only []
                rw [b4, b5]
                exact if_pos ⟨c_47, Or.inr (Int32.not_le.mp c_68)⟩
              rw [eS] at h
              exact h
        · refine ax_if_eq (tgt := 79) dX2_see_50 (by decide) (fun _ => ?_) (fun z => absurd (by decide) z)
          refine ax_vret dX2_see_79 rfl ?_
          rw [e5] at c_28
          have b4 : bC (¬ sI S 3 g 4 = 0 ∨ sI S 1 x 5 = 0) = 1 := bC_t (Or.inl c_5)
          have b5 : bC (¬ sI S 3 g 5 = 0 ∨ 0 < sI S 1 x 8) = 1 := bC_t (Or.inr c_32)
          have eS : seeS S g x = (wI (wI S 3 g 4 1) 3 g 5 1) := by
            unfold seeS
            simp only []
            rw [b4, b5]
            exact if_neg (fun z => c_47 z.1)
          rw [eS] at h
          exact h
      · refine ax_if_eq (tgt := 42) dX2_see_35 (by decide) (fun _ => ?_) (fun z => absurd (by decide) z)
        refine ax_iconst (v := 0) dX2_see_42 (by decide) ?_
        refine ax_putI dX2_see_43 fl_X2_22 rfl rfl rfl (Or.inl rfl) rfl rfl ?_
        refine ax_aload_n (i := 1) dX2_see_46 rfl rfl rfl ?_
        refine ax_invV (c := 1) (n := 0) (As := []) dX2_see_47 cb_X0_isFresh cv_X2_58.1 cv_X2_58.2.1 cv_X2_58.2.2 rfl (by decide) rfl ⟨Nat.le_of_ble_eq_true rfl, Nat.le_of_ble_eq_true rfl⟩ (Nat.le_of_ble_eq_true rfl) rfl (c_isFresh (fun c_47 => ?_) (fun c_47 => ?_))
        · refine ax_if_eq (tgt := 79) dX2_see_50 (by decide) (fun z => absurd z (by decide)) (fun _ => ?_)
          refine ax_aload_n (i := 0) dX2_see_53 rfl rfl rfl ?_
          refine ax_getI dX2_see_54 fl_X2_25 rfl rfl rfl ?_
          refine ax_if_eq (tgt := 71) dX2_see_57 (by decide) (fun c_57 => ?_) (fun c_57 => ?_)
          · refine ax_aload_n (i := 0) dX2_see_71 rfl rfl rfl ?_
            refine ax_aload_n (i := 1) dX2_see_72 rfl rfl rfl ?_
            refine ax_getI dX2_see_73 fl_X2_61 rfl rfl rfl ?_
            refine ax_putI dX2_see_76 fl_X2_25 rfl rfl rfl (Or.inl rfl) rfl rfl ?_
            refine ax_vret dX2_see_79 rfl ?_
            rw [e5] at c_28
            rw [e6] at c_57
            have b4 : bC (¬ sI S 3 g 4 = 0 ∨ sI S 1 x 5 = 0) = 1 := bC_t (Or.inl c_5)
            have b5 : bC (¬ sI S 3 g 5 = 0 ∨ 0 < sI S 1 x 8) = 0 := bC_f (fun z => z.elim c_28 c_32)
            have eS : seeS S g x = (wI (wI (wI S 3 g 4 1) 3 g 5 0) 3 g 6 (sI S 1 x 8)) := by
              unfold seeS
              simp only []
              rw [b4, b5]
              exact if_pos ⟨c_47, Or.inl c_57⟩
            rw [eS] at h
            exact h
          · refine ax_aload_n (i := 1) dX2_see_60 rfl rfl rfl ?_
            refine ax_getI dX2_see_61 fl_X2_61 rfl rfl rfl ?_
            refine ax_aload_n (i := 0) dX2_see_64 rfl rfl rfl ?_
            refine ax_getI dX2_see_65 fl_X2_25 rfl rfl rfl ?_
            refine ax_icmp_ge (tgt := 79) dX2_see_68 (by decide) (fun c_68 => ?_) (fun c_68 => ?_)
            · refine ax_vret dX2_see_79 rfl ?_
              rw [e5] at c_28
              rw [e6] at c_57
              rw [e6] at c_68
              have b4 : bC (¬ sI S 3 g 4 = 0 ∨ sI S 1 x 5 = 0) = 1 := bC_t (Or.inl c_5)
              have b5 : bC (¬ sI S 3 g 5 = 0 ∨ 0 < sI S 1 x 8) = 0 := bC_f (fun z => z.elim c_28 c_32)
              have eS : seeS S g x = (wI (wI S 3 g 4 1) 3 g 5 0) := by
                unfold seeS
                simp only []
                rw [b4, b5]
                exact if_neg (fun z => z.2.elim c_57 (Int32.not_lt.mpr c_68))
              rw [eS] at h
              exact h
            · refine ax_aload_n (i := 0) dX2_see_71 rfl rfl rfl ?_
              refine ax_aload_n (i := 1) dX2_see_72 rfl rfl rfl ?_
              refine ax_getI dX2_see_73 fl_X2_61 rfl rfl rfl ?_
              refine ax_putI dX2_see_76 fl_X2_25 rfl rfl rfl (Or.inl rfl) rfl rfl ?_
              refine ax_vret dX2_see_79 rfl ?_
              rw [e5] at c_28
              rw [e6] at c_57
              rw [e6] at c_68
              have b4 : bC (¬ sI S 3 g 4 = 0 ∨ sI S 1 x 5 = 0) = 1 := bC_t (Or.inl c_5)
              have b5 : bC (¬ sI S 3 g 5 = 0 ∨ 0 < sI S 1 x 8) = 0 := bC_f (fun z => z.elim c_28 c_32)
              have eS : seeS S g x = (wI (wI (wI S 3 g 4 1) 3 g 5 0) 3 g 6 (sI S 1 x 8)) := by
                unfold seeS
                simp only []
                rw [b4, b5]
                exact if_pos ⟨c_47, Or.inr (Int32.not_le.mp c_68)⟩
              rw [eS] at h
              exact h
        · refine ax_if_eq (tgt := 79) dX2_see_50 (by decide) (fun _ => ?_) (fun z => absurd (by decide) z)
          refine ax_vret dX2_see_79 rfl ?_
          rw [e5] at c_28
          have b4 : bC (¬ sI S 3 g 4 = 0 ∨ sI S 1 x 5 = 0) = 1 := bC_t (Or.inl c_5)
          have b5 : bC (¬ sI S 3 g 5 = 0 ∨ 0 < sI S 1 x 8) = 0 := bC_f (fun z => z.elim c_28 c_32)
          have eS : seeS S g x = (wI (wI S 3 g 4 1) 3 g 5 0) := by
            unfold seeS
            simp only []
            rw [b4, b5]
            exact if_neg (fun z => c_47 z.1)
          rw [eS] at h
          exact h
  · refine ax_aload_n (i := 1) dX2_see_8 rfl rfl rfl ?_
    refine ax_invV (c := 1) (n := 0) (As := []) dX2_see_9 cb_X0_lasts cv_X2_49.1 cv_X2_49.2.1 cv_X2_49.2.2 rfl (by decide) rfl ⟨Nat.le_of_ble_eq_true rfl, Nat.le_of_ble_eq_true rfl⟩ (Nat.le_of_ble_eq_true rfl) rfl (c_lasts (fun c_9 => ?_) (fun c_9 => ?_))
    · refine ax_if_eq (tgt := 19) dX2_see_12 (by decide) (fun z => absurd z (by decide)) (fun _ => ?_)
      refine ax_iconst (v := 1) dX2_see_15 (by decide) ?_
      refine ax_goto (tgt := 20) dX2_see_16 (by decide) ?_
      refine ax_putI dX2_see_20 fl_X2_19 rfl rfl rfl (Or.inl rfl) rfl rfl ?_
      refine ax_aload_n (i := 0) dX2_see_23 rfl rfl rfl ?_
      refine ax_aload_n (i := 0) dX2_see_24 rfl rfl rfl ?_
      refine ax_getI dX2_see_25 fl_X2_22 rfl rfl rfl ?_
      refine ax_if_ne (tgt := 38) dX2_see_28 (by decide) (fun c_28 => ?_) (fun c_28 => ?_)
      · refine ax_iconst (v := 1) dX2_see_38 (by decide) ?_
        refine ax_goto (tgt := 43) dX2_see_39 (by decide) ?_
        refine ax_putI dX2_see_43 fl_X2_22 rfl rfl rfl (Or.inl rfl) rfl rfl ?_
        refine ax_aload_n (i := 1) dX2_see_46 rfl rfl rfl ?_
        refine ax_invV (c := 1) (n := 0) (As := []) dX2_see_47 cb_X0_isFresh cv_X2_58.1 cv_X2_58.2.1 cv_X2_58.2.2 rfl (by decide) rfl ⟨Nat.le_of_ble_eq_true rfl, Nat.le_of_ble_eq_true rfl⟩ (Nat.le_of_ble_eq_true rfl) rfl (c_isFresh (fun c_47 => ?_) (fun c_47 => ?_))
        · refine ax_if_eq (tgt := 79) dX2_see_50 (by decide) (fun z => absurd z (by decide)) (fun _ => ?_)
          refine ax_aload_n (i := 0) dX2_see_53 rfl rfl rfl ?_
          refine ax_getI dX2_see_54 fl_X2_25 rfl rfl rfl ?_
          refine ax_if_eq (tgt := 71) dX2_see_57 (by decide) (fun c_57 => ?_) (fun c_57 => ?_)
          · refine ax_aload_n (i := 0) dX2_see_71 rfl rfl rfl ?_
            refine ax_aload_n (i := 1) dX2_see_72 rfl rfl rfl ?_
            refine ax_getI dX2_see_73 fl_X2_61 rfl rfl rfl ?_
            refine ax_putI dX2_see_76 fl_X2_25 rfl rfl rfl (Or.inl rfl) rfl rfl ?_
            refine ax_vret dX2_see_79 rfl ?_
            rw [e5] at c_28
            rw [e6] at c_57
            have b4 : bC (¬ sI S 3 g 4 = 0 ∨ sI S 1 x 5 = 0) = 1 := bC_t (Or.inr c_9)
            have b5 : bC (¬ sI S 3 g 5 = 0 ∨ 0 < sI S 1 x 8) = 1 := bC_t (Or.inl c_28)
            have eS : seeS S g x = (wI (wI (wI S 3 g 4 1) 3 g 5 1) 3 g 6 (sI S 1 x 8)) := by
              unfold seeS
              simp only []
              rw [b4, b5]
              exact if_pos ⟨c_47, Or.inl c_57⟩
            rw [eS] at h
            exact h
          · refine ax_aload_n (i := 1) dX2_see_60 rfl rfl rfl ?_
            refine ax_getI dX2_see_61 fl_X2_61 rfl rfl rfl ?_
            refine ax_aload_n (i := 0) dX2_see_64 rfl rfl rfl ?_
            refine ax_getI dX2_see_65 fl_X2_25 rfl rfl rfl ?_
            refine ax_icmp_ge (tgt := 79) dX2_see_68 (by decide) (fun c_68 => ?_) (fun c_68 => ?_)
            · refine ax_vret dX2_see_79 rfl ?_
              rw [e5] at c_28
              rw [e6] at c_57
              rw [e6] at c_68
              have b4 : bC (¬ sI S 3 g 4 = 0 ∨ sI S 1 x 5 = 0) = 1 := bC_t (Or.inr c_9)
              have b5 : bC (¬ sI S 3 g 5 = 0 ∨ 0 < sI S 1 x 8) = 1 := bC_t (Or.inl c_28)
              have eS : seeS S g x = (wI (wI S 3 g 4 1) 3 g 5 1) := by
                unfold seeS
                simp only []
                rw [b4, b5]
                exact if_neg (fun z => z.2.elim c_57 (Int32.not_lt.mpr c_68))
              rw [eS] at h
              exact h
            · refine ax_aload_n (i := 0) dX2_see_71 rfl rfl rfl ?_
              refine ax_aload_n (i := 1) dX2_see_72 rfl rfl rfl ?_
              refine ax_getI dX2_see_73 fl_X2_61 rfl rfl rfl ?_
              refine ax_putI dX2_see_76 fl_X2_25 rfl rfl rfl (Or.inl rfl) rfl rfl ?_
              refine ax_vret dX2_see_79 rfl ?_
              rw [e5] at c_28
              rw [e6] at c_57
              rw [e6] at c_68
              have b4 : bC (¬ sI S 3 g 4 = 0 ∨ sI S 1 x 5 = 0) = 1 := bC_t (Or.inr c_9)
              have b5 : bC (¬ sI S 3 g 5 = 0 ∨ 0 < sI S 1 x 8) = 1 := bC_t (Or.inl c_28)
              have eS : seeS S g x = (wI (wI (wI S 3 g 4 1) 3 g 5 1) 3 g 6 (sI S 1 x 8)) := by
                unfold seeS
                simp only []
                rw [b4, b5]
                exact if_pos ⟨c_47, Or.inr (Int32.not_le.mp c_68)⟩
              rw [eS] at h
              exact h
        · refine ax_if_eq (tgt := 79) dX2_see_50 (by decide) (fun _ => ?_) (fun z => absurd (by decide) z)
          refine ax_vret dX2_see_79 rfl ?_
          rw [e5] at c_28
          have b4 : bC (¬ sI S 3 g 4 = 0 ∨ sI S 1 x 5 = 0) = 1 := bC_t (Or.inr c_9)
          have b5 : bC (¬ sI S 3 g 5 = 0 ∨ 0 < sI S 1 x 8) = 1 := bC_t (Or.inl c_28)
          have eS : seeS S g x = (wI (wI S 3 g 4 1) 3 g 5 1) := by
            unfold seeS
            simp only []
            rw [b4, b5]
            exact if_neg (fun z => c_47 z.1)
          rw [eS] at h
          exact h
      · refine ax_aload_n (i := 1) dX2_see_31 rfl rfl rfl ?_
        refine ax_invV (c := 1) (n := 0) (As := []) dX2_see_32 cb_X0_isClear cv_X2_55.1 cv_X2_55.2.1 cv_X2_55.2.2 rfl (by decide) rfl ⟨Nat.le_of_ble_eq_true rfl, Nat.le_of_ble_eq_true rfl⟩ (Nat.le_of_ble_eq_true rfl) rfl (c_isClear (fun c_32 => ?_) (fun c_32 => ?_))
        · refine ax_if_eq (tgt := 42) dX2_see_35 (by decide) (fun z => absurd z (by decide)) (fun _ => ?_)
          refine ax_iconst (v := 1) dX2_see_38 (by decide) ?_
          refine ax_goto (tgt := 43) dX2_see_39 (by decide) ?_
          refine ax_putI dX2_see_43 fl_X2_22 rfl rfl rfl (Or.inl rfl) rfl rfl ?_
          refine ax_aload_n (i := 1) dX2_see_46 rfl rfl rfl ?_
          refine ax_invV (c := 1) (n := 0) (As := []) dX2_see_47 cb_X0_isFresh cv_X2_58.1 cv_X2_58.2.1 cv_X2_58.2.2 rfl (by decide) rfl ⟨Nat.le_of_ble_eq_true rfl, Nat.le_of_ble_eq_true rfl⟩ (Nat.le_of_ble_eq_true rfl) rfl (c_isFresh (fun c_47 => ?_) (fun c_47 => ?_))
          · refine ax_if_eq (tgt := 79) dX2_see_50 (by decide) (fun z => absurd z (by decide)) (fun _ => ?_)
            refine ax_aload_n (i := 0) dX2_see_53 rfl rfl rfl ?_
            refine ax_getI dX2_see_54 fl_X2_25 rfl rfl rfl ?_
            refine ax_if_eq (tgt := 71) dX2_see_57 (by decide) (fun c_57 => ?_) (fun c_57 => ?_)
            · refine ax_aload_n (i := 0) dX2_see_71 rfl rfl rfl ?_
              refine ax_aload_n (i := 1) dX2_see_72 rfl rfl rfl ?_
              refine ax_getI dX2_see_73 fl_X2_61 rfl rfl rfl ?_
              refine ax_putI dX2_see_76 fl_X2_25 rfl rfl rfl (Or.inl rfl) rfl rfl ?_
              refine ax_vret dX2_see_79 rfl ?_
              rw [e5] at c_28
              rw [e6] at c_57
              have b4 : bC (¬ sI S 3 g 4 = 0 ∨ sI S 1 x 5 = 0) = 1 := bC_t (Or.inr c_9)
              have b5 : bC (¬ sI S 3 g 5 = 0 ∨ 0 < sI S 1 x 8) = 1 := bC_t (Or.inr c_32)
              have eS : seeS S g x = (wI (wI (wI S 3 g 4 1) 3 g 5 1) 3 g 6 (sI S 1 x 8)) := by
                unfold seeS
                simp only []
                rw [b4, b5]
                exact if_pos ⟨c_47, Or.inl c_57⟩
              rw [eS] at h
              exact h
            · refine ax_aload_n (i := 1) dX2_see_60 rfl rfl rfl ?_
              refine ax_getI dX2_see_61 fl_X2_61 rfl rfl rfl ?_
              refine ax_aload_n (i := 0) dX2_see_64 rfl rfl rfl ?_
              refine ax_getI dX2_see_65 fl_X2_25 rfl rfl rfl ?_
              refine ax_icmp_ge (tgt := 79) dX2_see_68 (by decide) (fun c_68 => ?_) (fun c_68 => ?_)
              · refine ax_vret dX2_see_79 rfl ?_
                rw [e5] at c_28
                rw [e6] at c_57
                rw [e6] at c_68
                have b4 : bC (¬ sI S 3 g 4 = 0 ∨ sI S 1 x 5 = 0) = 1 := bC_t (Or.inr c_9)
                have b5 : bC (¬ sI S 3 g 5 = 0 ∨ 0 < sI S 1 x 8) = 1 := bC_t (Or.inr c_32)
                have eS : seeS S g x = (wI (wI S 3 g 4 1) 3 g 5 1) := by
                  unfold seeS
                  simp only []
                  rw [b4, b5]
                  exact if_neg (fun z => z.2.elim c_57 (Int32.not_lt.mpr c_68))
                rw [eS] at h
                exact h
              · refine ax_aload_n (i := 0) dX2_see_71 rfl rfl rfl ?_
                refine ax_aload_n (i := 1) dX2_see_72 rfl rfl rfl ?_
                refine ax_getI dX2_see_73 fl_X2_61 rfl rfl rfl ?_
                refine ax_putI dX2_see_76 fl_X2_25 rfl rfl rfl (Or.inl rfl) rfl rfl ?_
                refine ax_vret dX2_see_79 rfl ?_
                rw [e5] at c_28
                rw [e6] at c_57
                rw [e6] at c_68
                have b4 : bC (¬ sI S 3 g 4 = 0 ∨ sI S 1 x 5 = 0) = 1 := bC_t (Or.inr c_9)
                have b5 : bC (¬ sI S 3 g 5 = 0 ∨ 0 < sI S 1 x 8) = 1 := bC_t (Or.inr c_32)
                have eS : seeS S g x = (wI (wI (wI S 3 g 4 1) 3 g 5 1) 3 g 6 (sI S 1 x 8)) := by
                  unfold seeS
                  simp only []
                  rw [b4, b5]
                  exact if_pos ⟨c_47, Or.inr (Int32.not_le.mp c_68)⟩
                rw [eS] at h
                exact h
          · refine ax_if_eq (tgt := 79) dX2_see_50 (by decide) (fun _ => ?_) (fun z => absurd (by decide) z)
            refine ax_vret dX2_see_79 rfl ?_
            rw [e5] at c_28
            have b4 : bC (¬ sI S 3 g 4 = 0 ∨ sI S 1 x 5 = 0) = 1 := bC_t (Or.inr c_9)
            have b5 : bC (¬ sI S 3 g 5 = 0 ∨ 0 < sI S 1 x 8) = 1 := bC_t (Or.inr c_32)
            have eS : seeS S g x = (wI (wI S 3 g 4 1) 3 g 5 1) := by
              unfold seeS
              simp only []
              rw [b4, b5]
              exact if_neg (fun z => c_47 z.1)
            rw [eS] at h
            exact h
        · refine ax_if_eq (tgt := 42) dX2_see_35 (by decide) (fun _ => ?_) (fun z => absurd (by decide) z)
          refine ax_iconst (v := 0) dX2_see_42 (by decide) ?_
          refine ax_putI dX2_see_43 fl_X2_22 rfl rfl rfl (Or.inl rfl) rfl rfl ?_
          refine ax_aload_n (i := 1) dX2_see_46 rfl rfl rfl ?_
          refine ax_invV (c := 1) (n := 0) (As := []) dX2_see_47 cb_X0_isFresh cv_X2_58.1 cv_X2_58.2.1 cv_X2_58.2.2 rfl (by decide) rfl ⟨Nat.le_of_ble_eq_true rfl, Nat.le_of_ble_eq_true rfl⟩ (Nat.le_of_ble_eq_true rfl) rfl (c_isFresh (fun c_47 => ?_) (fun c_47 => ?_))
          · refine ax_if_eq (tgt := 79) dX2_see_50 (by decide) (fun z => absurd z (by decide)) (fun _ => ?_)
            refine ax_aload_n (i := 0) dX2_see_53 rfl rfl rfl ?_
            refine ax_getI dX2_see_54 fl_X2_25 rfl rfl rfl ?_
            refine ax_if_eq (tgt := 71) dX2_see_57 (by decide) (fun c_57 => ?_) (fun c_57 => ?_)
            · refine ax_aload_n (i := 0) dX2_see_71 rfl rfl rfl ?_
              refine ax_aload_n (i := 1) dX2_see_72 rfl rfl rfl ?_
              refine ax_getI dX2_see_73 fl_X2_61 rfl rfl rfl ?_
              refine ax_putI dX2_see_76 fl_X2_25 rfl rfl rfl (Or.inl rfl) rfl rfl ?_
              refine ax_vret dX2_see_79 rfl ?_
              rw [e5] at c_28
              rw [e6] at c_57
              have b4 : bC (¬ sI S 3 g 4 = 0 ∨ sI S 1 x 5 = 0) = 1 := bC_t (Or.inr c_9)
              have b5 : bC (¬ sI S 3 g 5 = 0 ∨ 0 < sI S 1 x 8) = 0 := bC_f (fun z => z.elim c_28 c_32)
              have eS : seeS S g x = (wI (wI (wI S 3 g 4 1) 3 g 5 0) 3 g 6 (sI S 1 x 8)) := by
                unfold seeS
                simp only []
                rw [b4, b5]
                exact if_pos ⟨c_47, Or.inl c_57⟩
              rw [eS] at h
              exact h
            · refine ax_aload_n (i := 1) dX2_see_60 rfl rfl rfl ?_
              refine ax_getI dX2_see_61 fl_X2_61 rfl rfl rfl ?_
              refine ax_aload_n (i := 0) dX2_see_64 rfl rfl rfl ?_
              refine ax_getI dX2_see_65 fl_X2_25 rfl rfl rfl ?_
              refine ax_icmp_ge (tgt := 79) dX2_see_68 (by decide) (fun c_68 => ?_) (fun c_68 => ?_)
              · refine ax_vret dX2_see_79 rfl ?_
                rw [e5] at c_28
                rw [e6] at c_57
                rw [e6] at c_68
                have b4 : bC (¬ sI S 3 g 4 = 0 ∨ sI S 1 x 5 = 0) = 1 := bC_t (Or.inr c_9)
                have b5 : bC (¬ sI S 3 g 5 = 0 ∨ 0 < sI S 1 x 8) = 0 := bC_f (fun z => z.elim c_28 c_32)
                have eS : seeS S g x = (wI (wI S 3 g 4 1) 3 g 5 0) := by
                  unfold seeS
                  simp only []
                  rw [b4, b5]
                  exact if_neg (fun z => z.2.elim c_57 (Int32.not_lt.mpr c_68))
                rw [eS] at h
                exact h
              · refine ax_aload_n (i := 0) dX2_see_71 rfl rfl rfl ?_
                refine ax_aload_n (i := 1) dX2_see_72 rfl rfl rfl ?_
                refine ax_getI dX2_see_73 fl_X2_61 rfl rfl rfl ?_
                refine ax_putI dX2_see_76 fl_X2_25 rfl rfl rfl (Or.inl rfl) rfl rfl ?_
                refine ax_vret dX2_see_79 rfl ?_
                rw [e5] at c_28
                rw [e6] at c_57
                rw [e6] at c_68
                have b4 : bC (¬ sI S 3 g 4 = 0 ∨ sI S 1 x 5 = 0) = 1 := bC_t (Or.inr c_9)
                have b5 : bC (¬ sI S 3 g 5 = 0 ∨ 0 < sI S 1 x 8) = 0 := bC_f (fun z => z.elim c_28 c_32)
                have eS : seeS S g x = (wI (wI (wI S 3 g 4 1) 3 g 5 0) 3 g 6 (sI S 1 x 8)) := by
                  unfold seeS
                  simp only []
                  rw [b4, b5]
                  exact if_pos ⟨c_47, Or.inr (Int32.not_le.mp c_68)⟩
                rw [eS] at h
                exact h
          · refine ax_if_eq (tgt := 79) dX2_see_50 (by decide) (fun _ => ?_) (fun z => absurd (by decide) z)
            refine ax_vret dX2_see_79 rfl ?_
            rw [e5] at c_28
            have b4 : bC (¬ sI S 3 g 4 = 0 ∨ sI S 1 x 5 = 0) = 1 := bC_t (Or.inr c_9)
            have b5 : bC (¬ sI S 3 g 5 = 0 ∨ 0 < sI S 1 x 8) = 0 := bC_f (fun z => z.elim c_28 c_32)
            have eS : seeS S g x = (wI (wI S 3 g 4 1) 3 g 5 0) := by
              unfold seeS
              simp only []
              rw [b4, b5]
              exact if_neg (fun z => c_47 z.1)
            rw [eS] at h
            exact h
    · refine ax_if_eq (tgt := 19) dX2_see_12 (by decide) (fun _ => ?_) (fun z => absurd (by decide) z)
      refine ax_iconst (v := 0) dX2_see_19 (by decide) ?_
      refine ax_putI dX2_see_20 fl_X2_19 rfl rfl rfl (Or.inl rfl) rfl rfl ?_
      refine ax_aload_n (i := 0) dX2_see_23 rfl rfl rfl ?_
      refine ax_aload_n (i := 0) dX2_see_24 rfl rfl rfl ?_
      refine ax_getI dX2_see_25 fl_X2_22 rfl rfl rfl ?_
      refine ax_if_ne (tgt := 38) dX2_see_28 (by decide) (fun c_28 => ?_) (fun c_28 => ?_)
      · refine ax_iconst (v := 1) dX2_see_38 (by decide) ?_
        refine ax_goto (tgt := 43) dX2_see_39 (by decide) ?_
        refine ax_putI dX2_see_43 fl_X2_22 rfl rfl rfl (Or.inl rfl) rfl rfl ?_
        refine ax_aload_n (i := 1) dX2_see_46 rfl rfl rfl ?_
        refine ax_invV (c := 1) (n := 0) (As := []) dX2_see_47 cb_X0_isFresh cv_X2_58.1 cv_X2_58.2.1 cv_X2_58.2.2 rfl (by decide) rfl ⟨Nat.le_of_ble_eq_true rfl, Nat.le_of_ble_eq_true rfl⟩ (Nat.le_of_ble_eq_true rfl) rfl (c_isFresh (fun c_47 => ?_) (fun c_47 => ?_))
        · refine ax_if_eq (tgt := 79) dX2_see_50 (by decide) (fun z => absurd z (by decide)) (fun _ => ?_)
          refine ax_aload_n (i := 0) dX2_see_53 rfl rfl rfl ?_
          refine ax_getI dX2_see_54 fl_X2_25 rfl rfl rfl ?_
          refine ax_if_eq (tgt := 71) dX2_see_57 (by decide) (fun c_57 => ?_) (fun c_57 => ?_)
          · refine ax_aload_n (i := 0) dX2_see_71 rfl rfl rfl ?_
            refine ax_aload_n (i := 1) dX2_see_72 rfl rfl rfl ?_
            refine ax_getI dX2_see_73 fl_X2_61 rfl rfl rfl ?_
            refine ax_putI dX2_see_76 fl_X2_25 rfl rfl rfl (Or.inl rfl) rfl rfl ?_
            refine ax_vret dX2_see_79 rfl ?_
            rw [e5] at c_28
            rw [e6] at c_57
            have b4 : bC (¬ sI S 3 g 4 = 0 ∨ sI S 1 x 5 = 0) = 0 := bC_f (fun z => z.elim c_5 c_9)
            have b5 : bC (¬ sI S 3 g 5 = 0 ∨ 0 < sI S 1 x 8) = 1 := bC_t (Or.inl c_28)
            have eS : seeS S g x = (wI (wI (wI S 3 g 4 0) 3 g 5 1) 3 g 6 (sI S 1 x 8)) := by
              unfold seeS
              simp only []
              rw [b4, b5]
              exact if_pos ⟨c_47, Or.inl c_57⟩
            rw [eS] at h
            exact h
          · refine ax_aload_n (i := 1) dX2_see_60 rfl rfl rfl ?_
            refine ax_getI dX2_see_61 fl_X2_61 rfl rfl rfl ?_
            refine ax_aload_n (i := 0) dX2_see_64 rfl rfl rfl ?_
            refine ax_getI dX2_see_65 fl_X2_25 rfl rfl rfl ?_
            refine ax_icmp_ge (tgt := 79) dX2_see_68 (by decide) (fun c_68 => ?_) (fun c_68 => ?_)
            · refine ax_vret dX2_see_79 rfl ?_
              rw [e5] at c_28
              rw [e6] at c_57
              rw [e6] at c_68
              have b4 : bC (¬ sI S 3 g 4 = 0 ∨ sI S 1 x 5 = 0) = 0 := bC_f (fun z => z.elim c_5 c_9)
              have b5 : bC (¬ sI S 3 g 5 = 0 ∨ 0 < sI S 1 x 8) = 1 := bC_t (Or.inl c_28)
              have eS : seeS S g x = (wI (wI S 3 g 4 0) 3 g 5 1) := by
                unfold seeS
                simp only []
                rw [b4, b5]
                exact if_neg (fun z => z.2.elim c_57 (Int32.not_lt.mpr c_68))
              rw [eS] at h
              exact h
            · refine ax_aload_n (i := 0) dX2_see_71 rfl rfl rfl ?_
              refine ax_aload_n (i := 1) dX2_see_72 rfl rfl rfl ?_
              refine ax_getI dX2_see_73 fl_X2_61 rfl rfl rfl ?_
              refine ax_putI dX2_see_76 fl_X2_25 rfl rfl rfl (Or.inl rfl) rfl rfl ?_
              refine ax_vret dX2_see_79 rfl ?_
              rw [e5] at c_28
              rw [e6] at c_57
              rw [e6] at c_68
              have b4 : bC (¬ sI S 3 g 4 = 0 ∨ sI S 1 x 5 = 0) = 0 := bC_f (fun z => z.elim c_5 c_9)
              have b5 : bC (¬ sI S 3 g 5 = 0 ∨ 0 < sI S 1 x 8) = 1 := bC_t (Or.inl c_28)
              have eS : seeS S g x = (wI (wI (wI S 3 g 4 0) 3 g 5 1) 3 g 6 (sI S 1 x 8)) := by
                unfold seeS
                simp only []
                rw [b4, b5]
                exact if_pos ⟨c_47, Or.inr (Int32.not_le.mp c_68)⟩
              rw [eS] at h
              exact h
        · refine ax_if_eq (tgt := 79) dX2_see_50 (by decide) (fun _ => ?_) (fun z => absurd (by decide) z)
          refine ax_vret dX2_see_79 rfl ?_
          rw [e5] at c_28
          have b4 : bC (¬ sI S 3 g 4 = 0 ∨ sI S 1 x 5 = 0) = 0 := bC_f (fun z => z.elim c_5 c_9)
          have b5 : bC (¬ sI S 3 g 5 = 0 ∨ 0 < sI S 1 x 8) = 1 := bC_t (Or.inl c_28)
          have eS : seeS S g x = (wI (wI S 3 g 4 0) 3 g 5 1) := by
            unfold seeS
            simp only []
            rw [b4, b5]
            exact if_neg (fun z => c_47 z.1)
          rw [eS] at h
          exact h
      · refine ax_aload_n (i := 1) dX2_see_31 rfl rfl rfl ?_
        refine ax_invV (c := 1) (n := 0) (As := []) dX2_see_32 cb_X0_isClear cv_X2_55.1 cv_X2_55.2.1 cv_X2_55.2.2 rfl (by decide) rfl ⟨Nat.le_of_ble_eq_true rfl, Nat.le_of_ble_eq_true rfl⟩ (Nat.le_of_ble_eq_true rfl) rfl (c_isClear (fun c_32 => ?_) (fun c_32 => ?_))
        · refine ax_if_eq (tgt := 42) dX2_see_35 (by decide) (fun z => absurd z (by decide)) (fun _ => ?_)
          refine ax_iconst (v := 1) dX2_see_38 (by decide) ?_
          refine ax_goto (tgt := 43) dX2_see_39 (by decide) ?_
          refine ax_putI dX2_see_43 fl_X2_22 rfl rfl rfl (Or.inl rfl) rfl rfl ?_
          refine ax_aload_n (i := 1) dX2_see_46 rfl rfl rfl ?_
          refine ax_invV (c := 1) (n := 0) (As := []) dX2_see_47 cb_X0_isFresh cv_X2_58.1 cv_X2_58.2.1 cv_X2_58.2.2 rfl (by decide) rfl ⟨Nat.le_of_ble_eq_true rfl, Nat.le_of_ble_eq_true rfl⟩ (Nat.le_of_ble_eq_true rfl) rfl (c_isFresh (fun c_47 => ?_) (fun c_47 => ?_))
          · refine ax_if_eq (tgt := 79) dX2_see_50 (by decide) (fun z => absurd z (by decide)) (fun _ => ?_)
            refine ax_aload_n (i := 0) dX2_see_53 rfl rfl rfl ?_
            refine ax_getI dX2_see_54 fl_X2_25 rfl rfl rfl ?_
            refine ax_if_eq (tgt := 71) dX2_see_57 (by decide) (fun c_57 => ?_) (fun c_57 => ?_)
            · refine ax_aload_n (i := 0) dX2_see_71 rfl rfl rfl ?_
              refine ax_aload_n (i := 1) dX2_see_72 rfl rfl rfl ?_
              refine ax_getI dX2_see_73 fl_X2_61 rfl rfl rfl ?_
              refine ax_putI dX2_see_76 fl_X2_25 rfl rfl rfl (Or.inl rfl) rfl rfl ?_
              refine ax_vret dX2_see_79 rfl ?_
              rw [e5] at c_28
              rw [e6] at c_57
              have b4 : bC (¬ sI S 3 g 4 = 0 ∨ sI S 1 x 5 = 0) = 0 := bC_f (fun z => z.elim c_5 c_9)
              have b5 : bC (¬ sI S 3 g 5 = 0 ∨ 0 < sI S 1 x 8) = 1 := bC_t (Or.inr c_32)
              have eS : seeS S g x = (wI (wI (wI S 3 g 4 0) 3 g 5 1) 3 g 6 (sI S 1 x 8)) := by
                unfold seeS
                simp only []
                rw [b4, b5]
                exact if_pos ⟨c_47, Or.inl c_57⟩
              rw [eS] at h
              exact h
            · refine ax_aload_n (i := 1) dX2_see_60 rfl rfl rfl ?_
              refine ax_getI dX2_see_61 fl_X2_61 rfl rfl rfl ?_
              refine ax_aload_n (i := 0) dX2_see_64 rfl rfl rfl ?_
              refine ax_getI dX2_see_65 fl_X2_25 rfl rfl rfl ?_
              refine ax_icmp_ge (tgt := 79) dX2_see_68 (by decide) (fun c_68 => ?_) (fun c_68 => ?_)
              · refine ax_vret dX2_see_79 rfl ?_
                rw [e5] at c_28
                rw [e6] at c_57
                rw [e6] at c_68
                have b4 : bC (¬ sI S 3 g 4 = 0 ∨ sI S 1 x 5 = 0) = 0 := bC_f (fun z => z.elim c_5 c_9)
                have b5 : bC (¬ sI S 3 g 5 = 0 ∨ 0 < sI S 1 x 8) = 1 := bC_t (Or.inr c_32)
                have eS : seeS S g x = (wI (wI S 3 g 4 0) 3 g 5 1) := by
                  unfold seeS
                  simp only []
                  rw [b4, b5]
                  exact if_neg (fun z => z.2.elim c_57 (Int32.not_lt.mpr c_68))
                rw [eS] at h
                exact h
              · refine ax_aload_n (i := 0) dX2_see_71 rfl rfl rfl ?_
                refine ax_aload_n (i := 1) dX2_see_72 rfl rfl rfl ?_
                refine ax_getI dX2_see_73 fl_X2_61 rfl rfl rfl ?_
                refine ax_putI dX2_see_76 fl_X2_25 rfl rfl rfl (Or.inl rfl) rfl rfl ?_
                refine ax_vret dX2_see_79 rfl ?_
                rw [e5] at c_28
                rw [e6] at c_57
                rw [e6] at c_68
                have b4 : bC (¬ sI S 3 g 4 = 0 ∨ sI S 1 x 5 = 0) = 0 := bC_f (fun z => z.elim c_5 c_9)
                have b5 : bC (¬ sI S 3 g 5 = 0 ∨ 0 < sI S 1 x 8) = 1 := bC_t (Or.inr c_32)
                have eS : seeS S g x = (wI (wI (wI S 3 g 4 0) 3 g 5 1) 3 g 6 (sI S 1 x 8)) := by
                  unfold seeS
                  simp only []
                  rw [b4, b5]
                  exact if_pos ⟨c_47, Or.inr (Int32.not_le.mp c_68)⟩
                rw [eS] at h
                exact h
          · refine ax_if_eq (tgt := 79) dX2_see_50 (by decide) (fun _ => ?_) (fun z => absurd (by decide) z)
            refine ax_vret dX2_see_79 rfl ?_
            rw [e5] at c_28
            have b4 : bC (¬ sI S 3 g 4 = 0 ∨ sI S 1 x 5 = 0) = 0 := bC_f (fun z => z.elim c_5 c_9)
            have b5 : bC (¬ sI S 3 g 5 = 0 ∨ 0 < sI S 1 x 8) = 1 := bC_t (Or.inr c_32)
            have eS : seeS S g x = (wI (wI S 3 g 4 0) 3 g 5 1) := by
              unfold seeS
              simp only []
              rw [b4, b5]
              exact if_neg (fun z => c_47 z.1)
            rw [eS] at h
            exact h
        · refine ax_if_eq (tgt := 42) dX2_see_35 (by decide) (fun _ => ?_) (fun z => absurd (by decide) z)
          refine ax_iconst (v := 0) dX2_see_42 (by decide) ?_
          refine ax_putI dX2_see_43 fl_X2_22 rfl rfl rfl (Or.inl rfl) rfl rfl ?_
          refine ax_aload_n (i := 1) dX2_see_46 rfl rfl rfl ?_
          refine ax_invV (c := 1) (n := 0) (As := []) dX2_see_47 cb_X0_isFresh cv_X2_58.1 cv_X2_58.2.1 cv_X2_58.2.2 rfl (by decide) rfl ⟨Nat.le_of_ble_eq_true rfl, Nat.le_of_ble_eq_true rfl⟩ (Nat.le_of_ble_eq_true rfl) rfl (c_isFresh (fun c_47 => ?_) (fun c_47 => ?_))
          · refine ax_if_eq (tgt := 79) dX2_see_50 (by decide) (fun z => absurd z (by decide)) (fun _ => ?_)
            refine ax_aload_n (i := 0) dX2_see_53 rfl rfl rfl ?_
            refine ax_getI dX2_see_54 fl_X2_25 rfl rfl rfl ?_
            refine ax_if_eq (tgt := 71) dX2_see_57 (by decide) (fun c_57 => ?_) (fun c_57 => ?_)
            · refine ax_aload_n (i := 0) dX2_see_71 rfl rfl rfl ?_
              refine ax_aload_n (i := 1) dX2_see_72 rfl rfl rfl ?_
              refine ax_getI dX2_see_73 fl_X2_61 rfl rfl rfl ?_
              refine ax_putI dX2_see_76 fl_X2_25 rfl rfl rfl (Or.inl rfl) rfl rfl ?_
              refine ax_vret dX2_see_79 rfl ?_
              rw [e5] at c_28
              rw [e6] at c_57
              have b4 : bC (¬ sI S 3 g 4 = 0 ∨ sI S 1 x 5 = 0) = 0 := bC_f (fun z => z.elim c_5 c_9)
              have b5 : bC (¬ sI S 3 g 5 = 0 ∨ 0 < sI S 1 x 8) = 0 := bC_f (fun z => z.elim c_28 c_32)
              have eS : seeS S g x = (wI (wI (wI S 3 g 4 0) 3 g 5 0) 3 g 6 (sI S 1 x 8)) := by
                unfold seeS
                simp only []
                rw [b4, b5]
                exact if_pos ⟨c_47, Or.inl c_57⟩
              rw [eS] at h
              exact h
            · refine ax_aload_n (i := 1) dX2_see_60 rfl rfl rfl ?_
              refine ax_getI dX2_see_61 fl_X2_61 rfl rfl rfl ?_
              refine ax_aload_n (i := 0) dX2_see_64 rfl rfl rfl ?_
              refine ax_getI dX2_see_65 fl_X2_25 rfl rfl rfl ?_
              refine ax_icmp_ge (tgt := 79) dX2_see_68 (by decide) (fun c_68 => ?_) (fun c_68 => ?_)
              · refine ax_vret dX2_see_79 rfl ?_
                rw [e5] at c_28
                rw [e6] at c_57
                rw [e6] at c_68
                have b4 : bC (¬ sI S 3 g 4 = 0 ∨ sI S 1 x 5 = 0) = 0 := bC_f (fun z => z.elim c_5 c_9)
                have b5 : bC (¬ sI S 3 g 5 = 0 ∨ 0 < sI S 1 x 8) = 0 := bC_f (fun z => z.elim c_28 c_32)
                have eS : seeS S g x = (wI (wI S 3 g 4 0) 3 g 5 0) := by
                  unfold seeS
                  simp only []
                  rw [b4, b5]
                  exact if_neg (fun z => z.2.elim c_57 (Int32.not_lt.mpr c_68))
                rw [eS] at h
                exact h
              · refine ax_aload_n (i := 0) dX2_see_71 rfl rfl rfl ?_
                refine ax_aload_n (i := 1) dX2_see_72 rfl rfl rfl ?_
                refine ax_getI dX2_see_73 fl_X2_61 rfl rfl rfl ?_
                refine ax_putI dX2_see_76 fl_X2_25 rfl rfl rfl (Or.inl rfl) rfl rfl ?_
                refine ax_vret dX2_see_79 rfl ?_
                rw [e5] at c_28
                rw [e6] at c_57
                rw [e6] at c_68
                have b4 : bC (¬ sI S 3 g 4 = 0 ∨ sI S 1 x 5 = 0) = 0 := bC_f (fun z => z.elim c_5 c_9)
                have b5 : bC (¬ sI S 3 g 5 = 0 ∨ 0 < sI S 1 x 8) = 0 := bC_f (fun z => z.elim c_28 c_32)
                have eS : seeS S g x = (wI (wI (wI S 3 g 4 0) 3 g 5 0) 3 g 6 (sI S 1 x 8)) := by
                  unfold seeS
                  simp only []
                  rw [b4, b5]
                  exact if_pos ⟨c_47, Or.inr (Int32.not_le.mp c_68)⟩
                rw [eS] at h
                exact h
          · refine ax_if_eq (tgt := 79) dX2_see_50 (by decide) (fun _ => ?_) (fun z => absurd (by decide) z)
            refine ax_vret dX2_see_79 rfl ?_
            rw [e5] at c_28
            have b4 : bC (¬ sI S 3 g 4 = 0 ∨ sI S 1 x 5 = 0) = 0 := bC_f (fun z => z.elim c_5 c_9)
            have b5 : bC (¬ sI S 3 g 5 = 0 ∨ 0 < sI S 1 x 8) = 0 := bC_f (fun z => z.elim c_28 c_32)
            have eS : seeS S g x = (wI (wI S 3 g 4 0) 3 g 5 0) := by
              unfold seeS
              simp only []
              rw [b4, b5]
              exact if_neg (fun z => c_47 z.1)
            rw [eS] at h
            exact h
