set_option maxHeartbeats 4000000 in
set_option maxRecDepth 100000 in
theorem c_isAlike {E : awE} {S : awS} {Q : Option Value → awS → Nat → Nat → Prop} {g r s r1 s1 : Nat} {m : Int32} (hr : sR S 3 g 0 = some (nm 6 r1)) (hs : sR S 3 g 1 = some (nm 9 s1)) (h1 : (m &&& 1 = 0 ∨ sI S 9 s1 1 = sI S 9 s 1) ∧ (m &&& 2 = 0 ∨ sI S 6 r1 0 = sI S 6 r 0) ∧ (m &&& 4 = 0 ∨ sI S 6 r1 6 = sI S 6 r 6) → Q (some (.int 1)) S 0 0) (h0 : ¬ ((m &&& 1 = 0 ∨ sI S 9 s1 1 = sI S 9 s 1) ∧ (m &&& 2 = 0 ∨ sI S 6 r1 0 = sI S 6 r 0) ∧ (m &&& 4 = 0 ∨ sI S 6 r1 6 = sI S 6 r 6)) → Q (some (.int 0)) S 0 0) : awT true E m_X2_isAlike [.ref (nm 3 g), .ref (nm 6 r), .ref (nm 9 s), .int m] S Q := by
  refine awT.of (by decide) (by decide) (Nat.le_of_ble_eq_true rfl) ?_
  refine ax_iload_n (i := 3) dX2_isAlike_0 rfl rfl ?_
  refine ax_iconst (v := 1) dX2_isAlike_1 (by decide) ?_
  refine ax_iand dX2_isAlike_2 ?_
  refine ax_if_eq (tgt := 20) dX2_isAlike_3 (by decide) (fun c_3 => ?_) (fun c_3 => ?_)
  · refine ax_iload_n (i := 3) dX2_isAlike_20 rfl rfl ?_
    refine ax_iconst (v := 2) dX2_isAlike_21 (by decide) ?_
    refine ax_iand dX2_isAlike_22 ?_
    refine ax_if_eq (tgt := 40) dX2_isAlike_23 (by decide) (fun c_23 => ?_) (fun c_23 => ?_)
    · refine ax_iload_n (i := 3) dX2_isAlike_40 rfl rfl ?_
      refine ax_iconst (v := 4) dX2_isAlike_41 (by decide) ?_
      refine ax_iand dX2_isAlike_42 ?_
      refine ax_if_eq (tgt := 60) dX2_isAlike_43 (by decide) (fun c_43 => ?_) (fun c_43 => ?_)
      · refine ax_iconst (v := 1) dX2_isAlike_60 (by decide) ?_
        refine ax_goto (tgt := 65) dX2_isAlike_61 (by decide) ?_
        refine ax_iret dX2_isAlike_65 rfl rfl ?_
        first | exact h0 (by grind) | exact h1 (by grind)
      · refine ax_aload_n (i := 0) dX2_isAlike_46 rfl rfl rfl ?_
        refine ax_getR dX2_isAlike_47 fl_X2_28 rfl rfl rfl hr ?_
        refine ax_getI dX2_isAlike_50 fl_X2_46 rfl rfl rfl ?_
        refine ax_aload_n (i := 1) dX2_isAlike_53 rfl rfl rfl ?_
        refine ax_getI dX2_isAlike_54 fl_X2_46 rfl rfl rfl ?_
        refine ax_icmp_ne (tgt := 64) dX2_isAlike_57 (by decide) (fun c_57 => ?_) (fun c_57 => ?_)
        · refine ax_iconst (v := 0) dX2_isAlike_64 (by decide) ?_
          refine ax_iret dX2_isAlike_65 rfl rfl ?_
          first | exact h0 (by grind) | exact h1 (by grind)
        · refine ax_iconst (v := 1) dX2_isAlike_60 (by decide) ?_
          refine ax_goto (tgt := 65) dX2_isAlike_61 (by decide) ?_
          refine ax_iret dX2_isAlike_65 rfl rfl ?_
          first | exact h0 (by grind) | exact h1 (by grind)
    · refine ax_aload_n (i := 0) dX2_isAlike_26 rfl rfl rfl ?_
      refine ax_getR dX2_isAlike_27 fl_X2_28 rfl rfl rfl hr ?_
      refine ax_getI dX2_isAlike_30 fl_X2_41 rfl rfl rfl ?_
      refine ax_aload_n (i := 1) dX2_isAlike_33 rfl rfl rfl ?_
      refine ax_getI dX2_isAlike_34 fl_X2_41 rfl rfl rfl ?_
      refine ax_icmp_ne (tgt := 64) dX2_isAlike_37 (by decide) (fun c_37 => ?_) (fun c_37 => ?_)
      · refine ax_iconst (v := 0) dX2_isAlike_64 (by decide) ?_
        refine ax_iret dX2_isAlike_65 rfl rfl ?_
        first | exact h0 (by grind) | exact h1 (by grind)
      · refine ax_iload_n (i := 3) dX2_isAlike_40 rfl rfl ?_
        refine ax_iconst (v := 4) dX2_isAlike_41 (by decide) ?_
        refine ax_iand dX2_isAlike_42 ?_
        refine ax_if_eq (tgt := 60) dX2_isAlike_43 (by decide) (fun c_43 => ?_) (fun c_43 => ?_)
        · refine ax_iconst (v := 1) dX2_isAlike_60 (by decide) ?_
          refine ax_goto (tgt := 65) dX2_isAlike_61 (by decide) ?_
          refine ax_iret dX2_isAlike_65 rfl rfl ?_
          first | exact h0 (by grind) | exact h1 (by grind)
        · refine ax_aload_n (i := 0) dX2_isAlike_46 rfl rfl rfl ?_
          refine ax_getR dX2_isAlike_47 fl_X2_28 rfl rfl rfl hr ?_
          refine ax_getI dX2_isAlike_50 fl_X2_46 rfl rfl rfl ?_
          refine ax_aload_n (i := 1) dX2_isAlike_53 rfl rfl rfl ?_
          refine ax_getI dX2_isAlike_54 fl_X2_46 rfl rfl rfl ?_
          refine ax_icmp_ne (tgt := 64) dX2_isAlike_57 (by decide) (fun c_57 => ?_) (fun c_57 => ?_)
          · refine ax_iconst (v := 0) dX2_isAlike_64 (by decide) ?_
            refine ax_iret dX2_isAlike_65 rfl rfl ?_
            first | exact h0 (by grind) | exact h1 (by grind)
          · refine ax_iconst (v := 1) dX2_isAlike_60 (by decide) ?_
            refine ax_goto (tgt := 65) dX2_isAlike_61 (by decide) ?_
            refine ax_iret dX2_isAlike_65 rfl rfl ?_
            first | exact h0 (by grind) | exact h1 (by grind)
  · refine ax_aload_n (i := 0) dX2_isAlike_6 rfl rfl rfl ?_
    refine ax_getR dX2_isAlike_7 fl_X2_32 rfl rfl rfl hs ?_
    refine ax_getI dX2_isAlike_10 fl_X2_36 rfl rfl rfl ?_
    refine ax_aload_n (i := 2) dX2_isAlike_13 rfl rfl rfl ?_
    refine ax_getI dX2_isAlike_14 fl_X2_36 rfl rfl rfl ?_
    refine ax_icmp_ne (tgt := 64) dX2_isAlike_17 (by decide) (fun c_17 => ?_) (fun c_17 => ?_)
    · refine ax_iconst (v := 0) dX2_isAlike_64 (by decide) ?_
      refine ax_iret dX2_isAlike_65 rfl rfl ?_
      first | exact h0 (by grind) | exact h1 (by grind)
    · refine ax_iload_n (i := 3) dX2_isAlike_20 rfl rfl ?_
      refine ax_iconst (v := 2) dX2_isAlike_21 (by decide) ?_
      refine ax_iand dX2_isAlike_22 ?_
      refine ax_if_eq (tgt := 40) dX2_isAlike_23 (by decide) (fun c_23 => ?_) (fun c_23 => ?_)
      · refine ax_iload_n (i := 3) dX2_isAlike_40 rfl rfl ?_
        refine ax_iconst (v := 4) dX2_isAlike_41 (by decide) ?_
        refine ax_iand dX2_isAlike_42 ?_
        refine ax_if_eq (tgt := 60) dX2_isAlike_43 (by decide) (fun c_43 => ?_) (fun c_43 => ?_)
        · refine ax_iconst (v := 1) dX2_isAlike_60 (by decide) ?_
          refine ax_goto (tgt := 65) dX2_isAlike_61 (by decide) ?_
          refine ax_iret dX2_isAlike_65 rfl rfl ?_
          first | exact h0 (by grind) | exact h1 (by grind)
        · refine ax_aload_n (i := 0) dX2_isAlike_46 rfl rfl rfl ?_
          refine ax_getR dX2_isAlike_47 fl_X2_28 rfl rfl rfl hr ?_
          refine ax_getI dX2_isAlike_50 fl_X2_46 rfl rfl rfl ?_
          refine ax_aload_n (i := 1) dX2_isAlike_53 rfl rfl rfl ?_
          refine ax_getI dX2_isAlike_54 fl_X2_46 rfl rfl rfl ?_
          refine ax_icmp_ne (tgt := 64) dX2_isAlike_57 (by decide) (fun c_57 => ?_) (fun c_57 => ?_)
          · refine ax_iconst (v := 0) dX2_isAlike_64 (by decide) ?_
            refine ax_iret dX2_isAlike_65 rfl rfl ?_
            first | exact h0 (by grind) | exact h1 (by grind)
          · refine ax_iconst (v := 1) dX2_isAlike_60 (by decide) ?_
            refine ax_goto (tgt := 65) dX2_isAlike_61 (by decide) ?_
            refine ax_iret dX2_isAlike_65 rfl rfl ?_
            first | exact h0 (by grind) | exact h1 (by grind)
      · refine ax_aload_n (i := 0) dX2_isAlike_26 rfl rfl rfl ?_
        refine ax_getR dX2_isAlike_27 fl_X2_28 rfl rfl rfl hr ?_
        refine ax_getI dX2_isAlike_30 fl_X2_41 rfl rfl rfl ?_
        refine ax_aload_n (i := 1) dX2_isAlike_33 rfl rfl rfl ?_
        refine ax_getI dX2_isAlike_34 fl_X2_41 rfl rfl rfl ?_
        refine ax_icmp_ne (tgt := 64) dX2_isAlike_37 (by decide) (fun c_37 => ?_) (fun c_37 => ?_)
        · refine ax_iconst (v := 0) dX2_isAlike_64 (by decide) ?_
          refine ax_iret dX2_isAlike_65 rfl rfl ?_
          first | exact h0 (by grind) | exact h1 (by grind)
        · refine ax_iload_n (i := 3) dX2_isAlike_40 rfl rfl ?_
          refine ax_iconst (v := 4) dX2_isAlike_41 (by decide) ?_
          refine ax_iand dX2_isAlike_42 ?_
          refine ax_if_eq (tgt := 60) dX2_isAlike_43 (by decide) (fun c_43 => ?_) (fun c_43 => ?_)
          · refine ax_iconst (v := 1) dX2_isAlike_60 (by decide) ?_
            refine ax_goto (tgt := 65) dX2_isAlike_61 (by decide) ?_
            refine ax_iret dX2_isAlike_65 rfl rfl ?_
            first | exact h0 (by grind) | exact h1 (by grind)
          · refine ax_aload_n (i := 0) dX2_isAlike_46 rfl rfl rfl ?_
            refine ax_getR dX2_isAlike_47 fl_X2_28 rfl rfl rfl hr ?_
            refine ax_getI dX2_isAlike_50 fl_X2_46 rfl rfl rfl ?_
            refine ax_aload_n (i := 1) dX2_isAlike_53 rfl rfl rfl ?_
            refine ax_getI dX2_isAlike_54 fl_X2_46 rfl rfl rfl ?_
            refine ax_icmp_ne (tgt := 64) dX2_isAlike_57 (by decide) (fun c_57 => ?_) (fun c_57 => ?_)
            · refine ax_iconst (v := 0) dX2_isAlike_64 (by decide) ?_
              refine ax_iret dX2_isAlike_65 rfl rfl ?_
              first | exact h0 (by grind) | exact h1 (by grind)
            · refine ax_iconst (v := 1) dX2_isAlike_60 (by decide) ?_
              refine ax_goto (tgt := 65) dX2_isAlike_61 (by decide) ?_
              refine ax_iret dX2_isAlike_65 rfl rfl ?_
              first | exact h0 (by grind) | exact h1 (by grind)
theorem cR.same {τ : Nat → Nat → Nat} {S : awS} {M : aM} (R : cR τ S M) {g r s : Nat} (hg : g < mN M 48) (hr : r < mN M 6) (hs : s < mN M 2) : ((mS M 43 &&& 1 = 0 ∨ sI S 9 (mE M 32 (mE M 49 g)) 1 = sI S 9 s 1) ∧ (mS M 43 &&& 2 = 0 ∨ sI S 6 (mE M 31 (mE M 49 g)) 0 = sI S 6 r 0) ∧ (mS M 43 &&& 4 = 0 ∨ sI S 6 (mE M 31 (mE M 49 g)) 6 = sI S 6 r 6)) ↔ mSame M r s g := by
  have hx := (R.inv.2.2.2.2.1 g hg).1
  have h1 := R.aSo hx
  have h2 := R.aRu hx
  have hxr : mA M 31 (mE M 49 g) = nI (mE M 31 (mE M 49 g)) := (R.mI.A (k := 31) (n := 300) (b := 16) (by decide) (Nat.lt_of_lt_of_le hx R.nA)).1
  rw [R.int (f := 9) (k := 1) (m := 3) (q := 2) (by decide) h1, R.int (f := 9) (k := 1) (m := 3) (q := 2) (by decide) hs, R.int (f := 6) (k := 6) (m := 13) (q := 6) (by decide) h2, R.int (f := 6) (k := 6) (m := 13) (q := 6) (by decide) hr, (R.rul _ h2).2.2.2.2.2.2.2.2.1, (R.rul r hr).2.2.2.2.2.2.2.2.1, ← hxr]
  exact Iff.rfl

