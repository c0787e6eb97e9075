set_option maxHeartbeats 4000000 in
set_option maxRecDepth 100000 in
theorem c_isClear {E : awE} {S : awS} {Q : Option Value → awS → Nat → Nat → Prop} {i : Nat}  (h1 : 0 < sI S 1 i 8 → Q (some (.int 1)) S 0 0) (h0 : ¬ (0 < sI S 1 i 8) → Q (some (.int 0)) S 0 0) : awT true E m_X0_isClear [.ref (nm 1 i)] S Q := by
  refine awT.of (by decide) (by decide) (Nat.le_of_ble_eq_true rfl) ?_
  refine ax_aload_n (i := 0) dX0_isClear_0 rfl rfl rfl ?_
  refine ax_getI dX0_isClear_1 fl_X0_20 rfl rfl rfl ?_
  refine ax_if_le (tgt := 11) dX0_isClear_4 (by decide) (fun c_4 => ?_) (fun c_4 => ?_)
  · refine ax_iconst (v := 0) dX0_isClear_11 (by decide) ?_
    refine ax_iret dX0_isClear_12 rfl rfl ?_
    first | exact h0 (by grind) | exact h1 (by grind)
  · refine ax_iconst (v := 1) dX0_isClear_7 (by decide) ?_
    refine ax_goto (tgt := 12) dX0_isClear_8 (by decide) ?_
    refine ax_iret dX0_isClear_12 rfl rfl ?_
    first | exact h0 (by grind) | exact h1 (by grind)
set_option maxHeartbeats 4000000 in
set_option maxRecDepth 100000 in
theorem c_lasts {E : awE} {S : awS} {Q : Option Value → awS → Nat → Nat → Prop} {i : Nat}  (h1 : sI S 1 i 5 = 0 → Q (some (.int 1)) S 0 0) (h0 : ¬ (sI S 1 i 5 = 0) → Q (some (.int 0)) S 0 0) : awT true E m_X0_lasts [.ref (nm 1 i)] S Q := by
  refine awT.of (by decide) (by decide) (Nat.le_of_ble_eq_true rfl) ?_
  refine ax_aload_n (i := 0) dX0_lasts_0 rfl rfl rfl ?_
  refine ax_getI dX0_lasts_1 fl_X0_7 rfl rfl rfl ?_
  refine ax_if_ne (tgt := 11) dX0_lasts_4 (by decide) (fun c_4 => ?_) (fun c_4 => ?_)
  · refine ax_iconst (v := 0) dX0_lasts_11 (by decide) ?_
    refine ax_iret dX0_lasts_12 rfl rfl ?_
    first | exact h0 (by grind) | exact h1 (by grind)
  · refine ax_iconst (v := 1) dX0_lasts_7 (by decide) ?_
    refine ax_goto (tgt := 12) dX0_lasts_8 (by decide) ?_
    refine ax_iret dX0_lasts_12 rfl rfl ?_
    first | exact h0 (by grind) | exact h1 (by grind)
set_option maxHeartbeats 4000000 in
set_option maxRecDepth 100000 in
theorem c_isFresh {E : awE} {S : awS} {Q : Option Value → awS → Nat → Nat → Prop} {i : Nat}  (h1 : 0 < sI S 1 i 8 ∧ sI S 1 i 10 = 0 → Q (some (.int 1)) S 0 0) (h0 : ¬ (0 < sI S 1 i 8 ∧ sI S 1 i 10 = 0) → Q (some (.int 0)) S 0 0) : awT true E m_X0_isFresh [.ref (nm 1 i)] S Q := by
  refine awT.of (by decide) (by decide) (Nat.le_of_ble_eq_true rfl) ?_
  refine ax_aload_n (i := 0) dX0_isFresh_0 rfl rfl rfl ?_
  refine ax_invV (c := 1) (n := 0) (As := []) dX0_isFresh_1 cb_X0_isClear cv_X0_53.1 cv_X0_53.2.1 cv_X0_53.2.2 rfl (by decide) rfl ⟨Nat.le_of_ble_eq_true rfl, Nat.le_of_ble_eq_true rfl⟩ (Nat.le_of_ble_eq_true rfl) rfl (c_isClear (fun c_1 => ?_) (fun c_1 => ?_))
  · refine ax_if_eq (tgt := 18) dX0_isFresh_4 (by decide) (fun z => absurd z (by decide)) (fun _ => ?_)
    refine ax_aload_n (i := 0) dX0_isFresh_7 rfl rfl rfl ?_
    refine ax_getI dX0_isFresh_8 fl_X0_26 rfl rfl rfl ?_
    refine ax_if_ne (tgt := 18) dX0_isFresh_11 (by decide) (fun c_11 => ?_) (fun c_11 => ?_)
    · refine ax_iconst (v := 0) dX0_isFresh_18 (by decide) ?_
      refine ax_iret dX0_isFresh_19 rfl rfl ?_
      first | exact h0 (by grind) | exact h1 (by grind)
    · refine ax_iconst (v := 1) dX0_isFresh_14 (by decide) ?_
      refine ax_goto (tgt := 19) dX0_isFresh_15 (by decide) ?_
      refine ax_iret dX0_isFresh_19 rfl rfl ?_
      first | exact h0 (by grind) | exact h1 (by grind)
  · refine ax_if_eq (tgt := 18) dX0_isFresh_4 (by decide) (fun _ => ?_) (fun z => absurd (by decide) z)
    refine ax_iconst (v := 0) dX0_isFresh_18 (by decide) ?_
    refine ax_iret dX0_isFresh_19 rfl rfl ?_
    first | exact h0 (by grind) | exact h1 (by grind)
set_option maxHeartbeats 4000000 in
set_option maxRecDepth 100000 in
theorem c_wantsEnd {E : awE} {S : awS} {Q : Option Value → awS → Nat → Nat → Prop} {i : Nat}  (h1 : ¬ sI S 1 i 5 = 0 ∧ ¬ sI S 1 i 11 = 0 ∧ sI S 1 i 12 = 0 → Q (some (.int 1)) S 0 0) (h0 : ¬ (¬ sI S 1 i 5 = 0 ∧ ¬ sI S 1 i 11 = 0 ∧ sI S 1 i 12 = 0) → Q (some (.int 0)) S 0 0) : awT true E m_X0_wantsEndTold [.ref (nm 1 i)] S Q := by
  refine awT.of (by decide) (by decide) (Nat.le_of_ble_eq_true rfl) ?_
  refine ax_aload_n (i := 0) dX0_wantsEndTold_0 rfl rfl rfl ?_
  refine ax_invV (c := 1) (n := 0) (As := []) dX0_wantsEndTold_1 cb_X0_lasts cv_X0_57.1 cv_X0_57.2.1 cv_X0_57.2.2 rfl (by decide) rfl ⟨Nat.le_of_ble_eq_true rfl, Nat.le_of_ble_eq_true rfl⟩ (Nat.le_of_ble_eq_true rfl) rfl (c_lasts (fun c_1 => ?_) (fun c_1 => ?_))
  · refine ax_if_ne (tgt := 25) dX0_wantsEndTold_4 (by decide) (fun _ => ?_) (fun z => absurd (by decide) z)
    refine ax_iconst (v := 0) dX0_wantsEndTold_25 (by decide) ?_
    refine ax_iret dX0_wantsEndTold_26 rfl rfl ?_
    first | exact h0 (by grind) | exact h1 (by grind)
  · refine ax_if_ne (tgt := 25) dX0_wantsEndTold_4 (by decide) (fun z => absurd z (by decide)) (fun _ => ?_)
    refine ax_aload_n (i := 0) dX0_wantsEndTold_7 rfl rfl rfl ?_
    refine ax_getI dX0_wantsEndTold_8 fl_X0_29 rfl rfl rfl ?_
    refine ax_if_eq (tgt := 25) dX0_wantsEndTold_11 (by decide) (fun c_11 => ?_) (fun c_11 => ?_)
    · refine ax_iconst (v := 0) dX0_wantsEndTold_25 (by decide) ?_
      refine ax_iret dX0_wantsEndTold_26 rfl rfl ?_
      first | exact h0 (by grind) | exact h1 (by grind)
    · refine ax_aload_n (i := 0) dX0_wantsEndTold_14 rfl rfl rfl ?_
      refine ax_getI dX0_wantsEndTold_15 fl_X0_32 rfl rfl rfl ?_
      refine ax_if_ne (tgt := 25) dX0_wantsEndTold_18 (by decide) (fun c_18 => ?_) (fun c_18 => ?_)
      · refine ax_iconst (v := 0) dX0_wantsEndTold_25 (by decide) ?_
        refine ax_iret dX0_wantsEndTold_26 rfl rfl ?_
        first | exact h0 (by grind) | exact h1 (by grind)
      · refine ax_iconst (v := 1) dX0_wantsEndTold_21 (by decide) ?_
        refine ax_goto (tgt := 26) dX0_wantsEndTold_22 (by decide) ?_
        refine ax_iret dX0_wantsEndTold_26 rfl rfl ?_
        first | exact h0 (by grind) | exact h1 (by grind)
set_option maxHeartbeats 4000000 in
set_option maxRecDepth 100000 in
theorem c_isAnswered {E : awE} {S : awS} {Q : Option Value → awS → Nat → Nat → Prop} {l : Nat}  (h1 : 0 < sI S 4 l 8 → Q (some (.int 1)) S 0 0) (h0 : ¬ (0 < sI S 4 l 8) → Q (some (.int 0)) S 0 0) : awT true E m_X3_isAnswered [.ref (nm 4 l)] S Q := by
  refine awT.of (by decide) (by decide) (Nat.le_of_ble_eq_true rfl) ?_
  refine ax_aload_n (i := 0) dX3_isAnswered_0 rfl rfl rfl ?_
  refine ax_getI dX3_isAnswered_1 fl_X3_25 rfl rfl rfl ?_
  refine ax_if_le (tgt := 11) dX3_isAnswered_4 (by decide) (fun c_4 => ?_) (fun c_4 => ?_)
  · refine ax_iconst (v := 0) dX3_isAnswered_11 (by decide) ?_
    refine ax_iret dX3_isAnswered_12 rfl rfl ?_
    first | exact h0 (by grind) | exact h1 (by grind)
  · refine ax_iconst (v := 1) dX3_isAnswered_7 (by decide) ?_
    refine ax_goto (tgt := 12) dX3_isAnswered_8 (by decide) ?_
    refine ax_iret dX3_isAnswered_12 rfl rfl ?_
    first | exact h0 (by grind) | exact h1 (by grind)
set_option maxHeartbeats 4000000 in
set_option maxRecDepth 100000 in
theorem c_isToAll {E : awE} {S : awS} {Q : Option Value → awS → Nat → Nat → Prop} {l : Nat}  (h1 : sI S 4 l 4 ≤ sI S 4 l 9 → Q (some (.int 1)) S 0 0) (h0 : ¬ (sI S 4 l 4 ≤ sI S 4 l 9) → Q (some (.int 0)) S 0 0) : awT true E m_X3_isToAll [.ref (nm 4 l)] S Q := by
  refine awT.of (by decide) (by decide) (Nat.le_of_ble_eq_true rfl) ?_
  refine ax_aload_n (i := 0) dX3_isToAll_0 rfl rfl rfl ?_
  refine ax_getI dX3_isToAll_1 fl_X3_28 rfl rfl rfl ?_
  refine ax_aload_n (i := 0) dX3_isToAll_4 rfl rfl rfl ?_
  refine ax_getI dX3_isToAll_5 fl_X3_15 rfl rfl rfl ?_
  refine ax_icmp_lt (tgt := 15) dX3_isToAll_8 (by decide) (fun c_8 => ?_) (fun c_8 => ?_)
  · refine ax_iconst (v := 0) dX3_isToAll_15 (by decide) ?_
    refine ax_iret dX3_isToAll_16 rfl rfl ?_
    first | exact h0 (by grind) | exact h1 (by grind)
  · refine ax_iconst (v := 1) dX3_isToAll_11 (by decide) ?_
    refine ax_goto (tgt := 16) dX3_isToAll_12 (by decide) ?_
    refine ax_iret dX3_isToAll_16 rfl rfl ?_
    first | exact h0 (by grind) | exact h1 (by grind)
set_option maxHeartbeats 4000000 in
set_option maxRecDepth 100000 in
theorem c_hasFresh {E : awE} {S : awS} {Q : Option Value → awS → Nat → Nat → Prop} {g : Nat}  (h1 : 0 < sI S 3 g 6 → Q (some (.int 1)) S 0 0) (h0 : ¬ (0 < sI S 3 g 6) → Q (some (.int 0)) S 0 0) : awT true E m_X2_hasFresh [.ref (nm 3 g)] S Q := by
  refine awT.of (by decide) (by decide) (Nat.le_of_ble_eq_true rfl) ?_
  refine ax_aload_n (i := 0) dX2_hasFresh_0 rfl rfl rfl ?_
  refine ax_getI dX2_hasFresh_1 fl_X2_25 rfl rfl rfl ?_
  refine ax_if_le (tgt := 11) dX2_hasFresh_4 (by decide) (fun c_4 => ?_) (fun c_4 => ?_)
  · refine ax_iconst (v := 0) dX2_hasFresh_11 (by decide) ?_
    refine ax_iret dX2_hasFresh_12 rfl rfl ?_
    first | exact h0 (by grind) | exact h1 (by grind)
  · refine ax_iconst (v := 1) dX2_hasFresh_7 (by decide) ?_
    refine ax_goto (tgt := 12) dX2_hasFresh_8 (by decide) ?_
    refine ax_iret dX2_hasFresh_12 rfl rfl ?_
    first | exact h0 (by grind) | exact h1 (by grind)
set_option maxHeartbeats 4000000 in
set_option maxRecDepth 100000 in
theorem c_isRow {E : awE} {S : awS} {Q : Option Value → awS → Nat → Nat → Prop} {d : Nat}  (h1 : sI S 2 d 0 = 3 ∨ sI S 2 d 0 = 4 → Q (some (.int 1)) S 0 0) (h0 : ¬ (sI S 2 d 0 = 3 ∨ sI S 2 d 0 = 4) → Q (some (.int 0)) S 0 0) : awT true E m_X1_isRow [.ref (nm 2 d)] S Q := by
  refine awT.of (by decide) (by decide) (Nat.le_of_ble_eq_true rfl) ?_
  refine ax_aload_n (i := 0) dX1_isRow_0 rfl rfl rfl ?_
  refine ax_getI dX1_isRow_1 fl_X1_9 rfl rfl rfl ?_
  refine ax_iconst (v := 3) dX1_isRow_4 (by decide) ?_
  refine ax_icmp_eq (tgt := 16) dX1_isRow_5 (by decide) (fun c_5 => ?_) (fun c_5 => ?_)
  · refine ax_iconst (v := 1) dX1_isRow_16 (by decide) ?_
    refine ax_goto (tgt := 21) dX1_isRow_17 (by decide) ?_
    refine ax_iret dX1_isRow_21 rfl rfl ?_
    first | exact h0 (by grind) | exact h1 (by grind)
  · refine ax_aload_n (i := 0) dX1_isRow_8 rfl rfl rfl ?_
    refine ax_getI dX1_isRow_9 fl_X1_9 rfl rfl rfl ?_
    refine ax_iconst (v := 4) dX1_isRow_12 (by decide) ?_
    refine ax_icmp_ne (tgt := 20) dX1_isRow_13 (by decide) (fun c_13 => ?_) (fun c_13 => ?_)
    · refine ax_iconst (v := 0) dX1_isRow_20 (by decide) ?_
      refine ax_iret dX1_isRow_21 rfl rfl ?_
      first | exact h0 (by grind) | exact h1 (by grind)
    · refine ax_iconst (v := 1) dX1_isRow_16 (by decide) ?_
      refine ax_goto (tgt := 21) dX1_isRow_17 (by decide) ?_
      refine ax_iret dX1_isRow_21 rfl rfl ?_
      first | exact h0 (by grind) | exact h1 (by grind)
set_option maxHeartbeats 4000000 in
set_option maxRecDepth 100000 in
theorem c_hasHand {E : awE} {S : awS} {Q : Option Value → awS → Nat → Nat → Prop} {x : Int32}  (h1 : 0 ≤ x ∧ x < sI S 5 0 0 → Q (some (.int 1)) S 0 0) (h0 : ¬ (0 ≤ x ∧ x < sI S 5 0 0) → Q (some (.int 0)) S 0 0) : awT true E m_X4_hasHand [.ref (nm 5 0), .int x] S Q := by
  refine awT.of (by decide) (by decide) (Nat.le_of_ble_eq_true rfl) ?_
  refine ax_iload_n (i := 1) dX4_hasHand_0 rfl rfl ?_
  refine ax_if_lt (tgt := 16) dX4_hasHand_1 (by decide) (fun c_1 => ?_) (fun c_1 => ?_)
  · refine ax_iconst (v := 0) dX4_hasHand_16 (by decide) ?_
    refine ax_iret dX4_hasHand_17 rfl rfl ?_
    first | exact h0 (by grind) | exact h1 (by grind)
  · refine ax_iload_n (i := 1) dX4_hasHand_4 rfl rfl ?_
    refine ax_aload_n (i := 0) dX4_hasHand_5 rfl rfl rfl ?_
    refine ax_getI dX4_hasHand_6 fl_X4_9 rfl rfl rfl ?_
    refine ax_icmp_ge (tgt := 16) dX4_hasHand_9 (by decide) (fun c_9 => ?_) (fun c_9 => ?_)
    · refine ax_iconst (v := 0) dX4_hasHand_16 (by decide) ?_
      refine ax_iret dX4_hasHand_17 rfl rfl ?_
      first | exact h0 (by grind) | exact h1 (by grind)
    · refine ax_iconst (v := 1) dX4_hasHand_12 (by decide) ?_
      refine ax_goto (tgt := 17) dX4_hasHand_13 (by decide) ?_
      refine ax_iret dX4_hasHand_17 rfl rfl ?_
      first | exact h0 (by grind) | exact h1 (by grind)
set_option maxHeartbeats 4000000 in
set_option maxRecDepth 100000 in
theorem c_looksAt {E : awE} {S : awS} {Q : Option Value → awS → Nat → Nat → Prop} {r i : Nat}  (h1 : sI S 6 r 8 = -1 ∨ sI S 6 r 8 = sI S 9 i 1 → Q (some (.int 1)) S 0 0) (h0 : ¬ (sI S 6 r 8 = -1 ∨ sI S 6 r 8 = sI S 9 i 1) → Q (some (.int 0)) S 0 0) : awT true E m_X5_looksAt [.ref (nm 6 r), .ref (nm 9 i)] S Q := by
  refine awT.of (by decide) (by decide) (Nat.le_of_ble_eq_true rfl) ?_
  refine ax_aload_n (i := 0) dX5_looksAt_0 rfl rfl rfl ?_
  refine ax_getI dX5_looksAt_1 fl_X5_54 rfl rfl rfl ?_
  refine ax_iconst (v := -1) dX5_looksAt_4 (by decide) ?_
  refine ax_icmp_eq (tgt := 19) dX5_looksAt_5 (by decide) (fun c_5 => ?_) (fun c_5 => ?_)
  · refine ax_iconst (v := 1) dX5_looksAt_19 (by decide) ?_
    refine ax_goto (tgt := 24) dX5_looksAt_20 (by decide) ?_
    refine ax_iret dX5_looksAt_24 rfl rfl ?_
    first | exact h0 (by grind) | exact h1 (by grind)
  · refine ax_aload_n (i := 0) dX5_looksAt_8 rfl rfl rfl ?_
    refine ax_getI dX5_looksAt_9 fl_X5_54 rfl rfl rfl ?_
    refine ax_aload_n (i := 1) dX5_looksAt_12 rfl rfl rfl ?_
    refine ax_getI dX5_looksAt_13 fl_X5_58 rfl rfl rfl ?_
    refine ax_icmp_ne (tgt := 23) dX5_looksAt_16 (by decide) (fun c_16 => ?_) (fun c_16 => ?_)
    · refine ax_iconst (v := 0) dX5_looksAt_23 (by decide) ?_
      refine ax_iret dX5_looksAt_24 rfl rfl ?_
      first | exact h0 (by grind) | exact h1 (by grind)
    · refine ax_iconst (v := 1) dX5_looksAt_19 (by decide) ?_
      refine ax_goto (tgt := 24) dX5_looksAt_20 (by decide) ?_
      refine ax_iret dX5_looksAt_24 rfl rfl ?_
      first | exact h0 (by grind) | exact h1 (by grind)
set_option maxHeartbeats 4000000 in
set_option maxRecDepth 100000 in
theorem c_swCov {E : awE} {S : awS} {Q : Option Value → awS → Nat → Nat → Prop} {k : Nat} {t : Int32}  (h1 : sI S 10 k 2 ≤ t ∧ t ≤ sI S 10 k 3 → Q (some (.int 1)) S 0 0) (h0 : ¬ (sI S 10 k 2 ≤ t ∧ t ≤ sI S 10 k 3) → Q (some (.int 0)) S 0 0) : awT true E m_X9_covers [.ref (nm 10 k), .int t] S Q := by
  refine awT.of (by decide) (by decide) (Nat.le_of_ble_eq_true rfl) ?_
  refine ax_iload_n (i := 1) dX9_covers_0 rfl rfl ?_
  refine ax_aload_n (i := 0) dX9_covers_1 rfl rfl rfl ?_
  refine ax_getI dX9_covers_2 fl_X9_16 rfl rfl rfl ?_
  refine ax_icmp_lt (tgt := 20) dX9_covers_5 (by decide) (fun c_5 => ?_) (fun c_5 => ?_)
  · refine ax_iconst (v := 0) dX9_covers_20 (by decide) ?_
    refine ax_iret dX9_covers_21 rfl rfl ?_
    first | exact h0 (by grind) | exact h1 (by grind)
  · refine ax_iload_n (i := 1) dX9_covers_8 rfl rfl ?_
    refine ax_aload_n (i := 0) dX9_covers_9 rfl rfl rfl ?_
    refine ax_getI dX9_covers_10 fl_X9_19 rfl rfl rfl ?_
    refine ax_icmp_gt (tgt := 20) dX9_covers_13 (by decide) (fun c_13 => ?_) (fun c_13 => ?_)
    · refine ax_iconst (v := 0) dX9_covers_20 (by decide) ?_
      refine ax_iret dX9_covers_21 rfl rfl ?_
      first | exact h0 (by grind) | exact h1 (by grind)
    · refine ax_iconst (v := 1) dX9_covers_16 (by decide) ?_
      refine ax_goto (tgt := 21) dX9_covers_17 (by decide) ?_
      refine ax_iret dX9_covers_21 rfl rfl ?_
      first | exact h0 (by grind) | exact h1 (by grind)
set_option maxHeartbeats 4000000 in
set_option maxRecDepth 100000 in
theorem c_hasSpan {E : awE} {S : awS} {Q : Option Value → awS → Nat → Nat → Prop} {d : Nat} {x n : Int32}  (h1 : 0 ≤ x ∧ 0 ≤ n ∧ x ≤ sI S 2 d 2 - n → Q (some (.int 1)) S 0 0) (h0 : ¬ (0 ≤ x ∧ 0 ≤ n ∧ x ≤ sI S 2 d 2 - n) → Q (some (.int 0)) S 0 0) : awT true E m_X1_hasSpan [.ref (nm 2 d), .int x, .int n] S Q := by
  refine awT.of (by decide) (by decide) (Nat.le_of_ble_eq_true rfl) ?_
  refine ax_iload_n (i := 1) dX1_hasSpan_0 rfl rfl ?_
  refine ax_if_lt (tgt := 22) dX1_hasSpan_1 (by decide) (fun c_1 => ?_) (fun c_1 => ?_)
  · refine ax_iconst (v := 0) dX1_hasSpan_22 (by decide) ?_
    refine ax_iret dX1_hasSpan_23 rfl rfl ?_
    first | exact h0 (by grind) | exact h1 (by grind)
  · refine ax_iload_n (i := 2) dX1_hasSpan_4 rfl rfl ?_
    refine ax_if_lt (tgt := 22) dX1_hasSpan_5 (by decide) (fun c_5 => ?_) (fun c_5 => ?_)
    · refine ax_iconst (v := 0) dX1_hasSpan_22 (by decide) ?_
      refine ax_iret dX1_hasSpan_23 rfl rfl ?_
      first | exact h0 (by grind) | exact h1 (by grind)
    · refine ax_iload_n (i := 1) dX1_hasSpan_8 rfl rfl ?_
      refine ax_aload_n (i := 0) dX1_hasSpan_9 rfl rfl rfl ?_
      refine ax_getI dX1_hasSpan_10 fl_X1_19 rfl rfl rfl ?_
      refine ax_iload_n (i := 2) dX1_hasSpan_13 rfl rfl ?_
      refine ax_isub dX1_hasSpan_14 ?_
      refine ax_icmp_gt (tgt := 22) dX1_hasSpan_15 (by decide) (fun c_15 => ?_) (fun c_15 => ?_)
      · refine ax_iconst (v := 0) dX1_hasSpan_22 (by decide) ?_
        refine ax_iret dX1_hasSpan_23 rfl rfl ?_
        first | exact h0 (by grind) | exact h1 (by grind)
      · refine ax_iconst (v := 1) dX1_hasSpan_18 (by decide) ?_
        refine ax_goto (tgt := 23) dX1_hasSpan_19 (by decide) ?_
        refine ax_iret dX1_hasSpan_23 rfl rfl ?_
        first | exact h0 (by grind) | exact h1 (by grind)
set_option maxHeartbeats 4000000 in
set_option maxRecDepth 100000 in
theorem c_isLike {E : awE} {S : awS} {Q : Option Value → awS → Nat → Nat → Prop} {i j : Nat} {k : Int32}  (h1 : k = 0 ∨ (k = 1 ∧ sI S 9 i 1 = sI S 9 j 1) ∨ (¬ k = 0 ∧ ¬ k = 1 ∧ sI S 9 i 0 = sI S 9 j 0) → Q (some (.int 1)) S 0 0) (h0 : ¬ (k = 0 ∨ (k = 1 ∧ sI S 9 i 1 = sI S 9 j 1) ∨ (¬ k = 0 ∧ ¬ k = 1 ∧ sI S 9 i 0 = sI S 9 j 0)) → Q (some (.int 0)) S 0 0) : awT true E m_X11_isLike [.ref (nm 9 i), .ref (nm 9 j), .int k] S Q := by
  refine awT.of (by decide) (by decide) (Nat.le_of_ble_eq_true rfl) ?_
  refine ax_iload_n (i := 2) dX11_isLike_0 rfl rfl ?_
  refine ax_if_ne (tgt := 6) dX11_isLike_1 (by decide) (fun c_1 => ?_) (fun c_1 => ?_)
  · refine ax_iload_n (i := 2) dX11_isLike_6 rfl rfl ?_
    refine ax_iconst (v := 1) dX11_isLike_7 (by decide) ?_
    refine ax_icmp_ne (tgt := 30) dX11_isLike_8 (by decide) (fun c_8 => ?_) (fun c_8 => ?_)
    · refine ax_aload_n (i := 0) dX11_isLike_30 rfl rfl rfl ?_
      refine ax_getI dX11_isLike_31 fl_X11_190 rfl rfl rfl ?_
      refine ax_aload_n (i := 1) dX11_isLike_34 rfl rfl rfl ?_
      refine ax_getI dX11_isLike_35 fl_X11_190 rfl rfl rfl ?_
      refine ax_icmp_ne (tgt := 45) dX11_isLike_38 (by decide) (fun c_38 => ?_) (fun c_38 => ?_)
      · refine ax_iconst (v := 0) dX11_isLike_45 (by decide) ?_
        refine ax_iret dX11_isLike_46 rfl rfl ?_
        first | exact h0 (by grind) | exact h1 (by grind)
      · refine ax_iconst (v := 1) dX11_isLike_41 (by decide) ?_
        refine ax_goto (tgt := 46) dX11_isLike_42 (by decide) ?_
        refine ax_iret dX11_isLike_46 rfl rfl ?_
        first | exact h0 (by grind) | exact h1 (by grind)
    · refine ax_aload_n (i := 0) dX11_isLike_11 rfl rfl rfl ?_
      refine ax_getI dX11_isLike_12 fl_X11_307 rfl rfl rfl ?_
      refine ax_aload_n (i := 1) dX11_isLike_15 rfl rfl rfl ?_
      refine ax_getI dX11_isLike_16 fl_X11_307 rfl rfl rfl ?_
      refine ax_icmp_ne (tgt := 26) dX11_isLike_19 (by decide) (fun c_19 => ?_) (fun c_19 => ?_)
      · refine ax_iconst (v := 0) dX11_isLike_26 (by decide) ?_
        refine ax_goto (tgt := 46) dX11_isLike_27 (by decide) ?_
        refine ax_iret dX11_isLike_46 rfl rfl ?_
        first | exact h0 (by grind) | exact h1 (by grind)
      · refine ax_iconst (v := 1) dX11_isLike_22 (by decide) ?_
        refine ax_goto (tgt := 46) dX11_isLike_23 (by decide) ?_
        refine ax_iret dX11_isLike_46 rfl rfl ?_
        first | exact h0 (by grind) | exact h1 (by grind)
  · refine ax_iconst (v := 1) dX11_isLike_4 (by decide) ?_
    refine ax_iret dX11_isLike_5 rfl rfl ?_
    first | exact h0 (by grind) | exact h1 (by grind)
set_option maxHeartbeats 4000000 in
set_option maxRecDepth 100000 in
theorem c_fits {E : awE} {S : awS} {Q : Option Value → awS → Nat → Nat → Prop} {k a r i : Nat} {t : Int32} (hr : sR S 1 a 1 = some (nm 6 r)) (hi : sR S 1 a 2 = some (nm 9 i)) (h1 : sI S 8 k 2 ≤ t ∧ t ≤ sI S 8 k 3 ∧ (sI S 8 k 0 = -1 ∨ sI S 8 k 0 = sI S 9 i 1) ∧ (sI S 8 k 1 = -1 ∨ sI S 8 k 1 = sI S 6 r 0) → Q (some (.int 1)) S 0 0) (h0 : ¬ (sI S 8 k 2 ≤ t ∧ t ≤ sI S 8 k 3 ∧ (sI S 8 k 0 = -1 ∨ sI S 8 k 0 = sI S 9 i 1) ∧ (sI S 8 k 1 = -1 ∨ sI S 8 k 1 = sI S 6 r 0)) → Q (some (.int 0)) S 0 0) : awT true E m_X7_fits [.ref (nm 8 k), .ref (nm 1 a), .int t] S Q := by
  refine awT.of (by decide) (by decide) (Nat.le_of_ble_eq_true rfl) ?_
  refine ax_iload_n (i := 2) dX7_fits_0 rfl rfl ?_
  refine ax_aload_n (i := 0) dX7_fits_1 rfl rfl rfl ?_
  refine ax_getI dX7_fits_2 fl_X7_16 rfl rfl rfl ?_
  refine ax_icmp_lt (tgt := 64) dX7_fits_5 (by decide) (fun c_5 => ?_) (fun c_5 => ?_)
  · refine ax_iconst (v := 0) dX7_fits_64 (by decide) ?_
    refine ax_iret dX7_fits_65 rfl rfl ?_
    first | exact h0 (by grind) | exact h1 (by grind)
  · refine ax_iload_n (i := 2) dX7_fits_8 rfl rfl ?_
    refine ax_aload_n (i := 0) dX7_fits_9 rfl rfl rfl ?_
    refine ax_getI dX7_fits_10 fl_X7_19 rfl rfl rfl ?_
    refine ax_icmp_gt (tgt := 64) dX7_fits_13 (by decide) (fun c_13 => ?_) (fun c_13 => ?_)
    · refine ax_iconst (v := 0) dX7_fits_64 (by decide) ?_
      refine ax_iret dX7_fits_65 rfl rfl ?_
      first | exact h0 (by grind) | exact h1 (by grind)
    · refine ax_aload_n (i := 0) dX7_fits_16 rfl rfl rfl ?_
      refine ax_getI dX7_fits_17 fl_X7_7 rfl rfl rfl ?_
      refine ax_iconst (v := -1) dX7_fits_20 (by decide) ?_
      refine ax_icmp_eq (tgt := 38) dX7_fits_21 (by decide) (fun c_21 => ?_) (fun c_21 => ?_)
      · refine ax_aload_n (i := 0) dX7_fits_38 rfl rfl rfl ?_
        refine ax_getI dX7_fits_39 fl_X7_13 rfl rfl rfl ?_
        refine ax_iconst (v := -1) dX7_fits_42 (by decide) ?_
        refine ax_icmp_eq (tgt := 60) dX7_fits_43 (by decide) (fun c_43 => ?_) (fun c_43 => ?_)
        · refine ax_iconst (v := 1) dX7_fits_60 (by decide) ?_
          refine ax_goto (tgt := 65) dX7_fits_61 (by decide) ?_
          refine ax_iret dX7_fits_65 rfl rfl ?_
          first | exact h0 (by grind) | exact h1 (by grind)
        · refine ax_aload_n (i := 0) dX7_fits_46 rfl rfl rfl ?_
          refine ax_getI dX7_fits_47 fl_X7_13 rfl rfl rfl ?_
          refine ax_aload_n (i := 1) dX7_fits_50 rfl rfl rfl ?_
          refine ax_getR dX7_fits_51 fl_X7_31 rfl rfl rfl hr ?_
          refine ax_getI dX7_fits_54 fl_X7_34 rfl rfl rfl ?_
          refine ax_icmp_ne (tgt := 64) dX7_fits_57 (by decide) (fun c_57 => ?_) (fun c_57 => ?_)
          · refine ax_iconst (v := 0) dX7_fits_64 (by decide) ?_
            refine ax_iret dX7_fits_65 rfl rfl ?_
            first | exact h0 (by grind) | exact h1 (by grind)
          · refine ax_iconst (v := 1) dX7_fits_60 (by decide) ?_
            refine ax_goto (tgt := 65) dX7_fits_61 (by decide) ?_
            refine ax_iret dX7_fits_65 rfl rfl ?_
            first | exact h0 (by grind) | exact h1 (by grind)
      · refine ax_aload_n (i := 0) dX7_fits_24 rfl rfl rfl ?_
        refine ax_getI dX7_fits_25 fl_X7_7 rfl rfl rfl ?_
        refine ax_aload_n (i := 1) dX7_fits_28 rfl rfl rfl ?_
        refine ax_getR dX7_fits_29 fl_X7_22 rfl rfl rfl hi ?_
        refine ax_getI dX7_fits_32 fl_X7_28 rfl rfl rfl ?_
        refine ax_icmp_ne (tgt := 64) dX7_fits_35 (by decide) (fun c_35 => ?_) (fun c_35 => ?_)
        · refine ax_iconst (v := 0) dX7_fits_64 (by decide) ?_
          refine ax_iret dX7_fits_65 rfl rfl ?_
          first | exact h0 (by grind) | exact h1 (by grind)
        · refine ax_aload_n (i := 0) dX7_fits_38 rfl rfl rfl ?_
          refine ax_getI dX7_fits_39 fl_X7_13 rfl rfl rfl ?_
          refine ax_iconst (v := -1) dX7_fits_42 (by decide) ?_
          refine ax_icmp_eq (tgt := 60) dX7_fits_43 (by decide) (fun c_43 => ?_) (fun c_43 => ?_)
          · refine ax_iconst (v := 1) dX7_fits_60 (by decide) ?_
            refine ax_goto (tgt := 65) dX7_fits_61 (by decide) ?_
            refine ax_iret dX7_fits_65 rfl rfl ?_
            first | exact h0 (by grind) | exact h1 (by grind)
          · refine ax_aload_n (i := 0) dX7_fits_46 rfl rfl rfl ?_
            refine ax_getI dX7_fits_47 fl_X7_13 rfl rfl rfl ?_
            refine ax_aload_n (i := 1) dX7_fits_50 rfl rfl rfl ?_
            refine ax_getR dX7_fits_51 fl_X7_31 rfl rfl rfl hr ?_
            refine ax_getI dX7_fits_54 fl_X7_34 rfl rfl rfl ?_
            refine ax_icmp_ne (tgt := 64) dX7_fits_57 (by decide) (fun c_57 => ?_) (fun c_57 => ?_)
            · refine ax_iconst (v := 0) dX7_fits_64 (by decide) ?_
              refine ax_iret dX7_fits_65 rfl rfl ?_
              first | exact h0 (by grind) | exact h1 (by grind)
            · refine ax_iconst (v := 1) dX7_fits_60 (by decide) ?_
              refine ax_goto (tgt := 65) dX7_fits_61 (by decide) ?_
              refine ax_iret dX7_fits_65 rfl rfl ?_
              first | exact h0 (by grind) | exact h1 (by grind)
theorem lt0_msb (x : Int32) : x < 0 ↔ x.toBitVec.msb = true := by
  rw [Int32.lt_iff_toInt_lt]
  show x.toBitVec.toInt < 0 ↔ _
  rw [BitVec.msb_eq_toInt]
  exact (decide_eq_true_iff).symm
theorem xor_lt0 (x : Int32) : x ^^^ nI 48 < 0 ↔ x < 0 := by
  rw [lt0_msb, lt0_msb]
  show (x.toBitVec ^^^ (nI 48).toBitVec).msb = true ↔ _
  rw [BitVec.msb_xor, show (nI 48).toBitVec.msb = false by decide, Bool.xor_false]

set_option maxHeartbeats 4000000 in
set_option maxRecDepth 100000 in
theorem c_floorMod {E : awE} {S : awS} {Q : Option Value → awS → Nat → Nat → Prop} {t f : Nat} (ht : t ≤ 2000) (hf : f < 48) (h : Q (some (.int (nI ((t % 48 + 48 - f) % 48)))) S 0 0) : awT true E m_J9_floorMod_7cf53 [.int (nI t - nI f), .int (nI 48)] S Q := by
  refine awT.ofF (by decide +kernel) (by decide) (Nat.le_of_ble_eq_true rfl) ?_
  by_cases hle : f ≤ t
  · rw [pk_sub hle]
    have hx : ¬ nI (t - f) < 0 := Int32.not_lt.mpr (nI_nn (by omega))
    have hr : nI (t - f) - nI (t - f) / nI 48 * nI 48 = nI ((t % 48 + 48 - f) % 48) := by rw [pk_rem (by omega) (by decide) (by decide)]; exact congrArg nI (by omega)
    refine ax_iload_n (i := 0) dJ9_floorMod_7cf53_0 rfl rfl ?_
    refine ax_iload_n (i := 1) dJ9_floorMod_7cf53_1 rfl rfl ?_
    refine ax_irem dJ9_floorMod_7cf53_2 (by decide) ?_
    refine ax_top hr ?_
    refine ax_istore_n (i := 2) (lv' := [(2, _), (0, _), (1, _)]) dJ9_floorMod_7cf53_3 rfl (by decide) rfl ?_
    refine ax_iload_n (i := 0) dJ9_floorMod_7cf53_4 rfl rfl ?_
    refine ax_iload_n (i := 1) dJ9_floorMod_7cf53_5 rfl rfl ?_
    refine ax_ixor dJ9_floorMod_7cf53_6 ?_
    refine ax_if_ge (tgt := 18) dJ9_floorMod_7cf53_7 (by decide) (fun c_7 => ?_) (fun c_7 => ?_)
    · refine ax_iload_n (i := 2) dJ9_floorMod_7cf53_18 rfl rfl ?_
      refine ax_iret dJ9_floorMod_7cf53_19 rfl rfl ?_
      exact h
    · exact absurd (fun z => hx ((xor_lt0 _).mp (Int32.not_le.mp z))) (fun k => k c_7)
  · have e0 : nI t - nI f = -(nI (f - t)) := by
      rw [← pk_sub (a := f) (b := t) (by omega)]
      exact Int32.neg_sub.symm
    have hx : nI t - nI f < 0 := by rw [Int32.lt_iff_toInt_lt, pk_sub_toInt (by omega) (by omega)]; show ((t : Int) - f) < 0; omega
    have hr : (nI t - nI f) - (nI t - nI f) / nI 48 * nI 48 = nI t - nI f := by
      have : (nI t - nI f) / nI 48 = 0 := by
        apply Int32.toInt_inj.mp
        rw [Int32.toInt_div_of_ne_right _ _ (by decide), pk_sub_toInt (by omega) (by omega), nI_toInt (by decide)]
        show Int.tdiv _ _ = 0
        rw [show ((t : Int) - f) = -((f - t : Nat) : Int) by omega, Int.neg_tdiv, show Int.tdiv ((f - t : Nat) : Int) ((48 : Nat) : Int) = ((f - t) / 48 : Nat) from rfl, Nat.div_eq_of_lt (by omega)]
        rfl
      rw [this, Int32.zero_mul, Int32.sub_zero]
    refine ax_iload_n (i := 0) dJ9_floorMod_7cf53_0 rfl rfl ?_
    refine ax_iload_n (i := 1) dJ9_floorMod_7cf53_1 rfl rfl ?_
    refine ax_irem dJ9_floorMod_7cf53_2 (by decide) ?_
    refine ax_top hr ?_
    refine ax_istore_n (i := 2) (lv' := [(2, _), (0, _), (1, _)]) dJ9_floorMod_7cf53_3 rfl (by decide) rfl ?_
    refine ax_iload_n (i := 0) dJ9_floorMod_7cf53_4 rfl rfl ?_
    refine ax_iload_n (i := 1) dJ9_floorMod_7cf53_5 rfl rfl ?_
    refine ax_ixor dJ9_floorMod_7cf53_6 ?_
    refine ax_if_ge (tgt := 18) dJ9_floorMod_7cf53_7 (by decide) (fun c_7 => ?_) (fun c_7 => ?_)
    · exact absurd ((xor_lt0 _).mpr hx) (Int32.not_lt.mpr c_7)
    · refine ax_iload_n (i := 2) dJ9_floorMod_7cf53_10 rfl rfl ?_
      refine ax_if_eq (tgt := 18) dJ9_floorMod_7cf53_11 (by decide) (fun c_11 => ?_) (fun c_11 => ?_)
      · exact absurd hx (by rw [c_11]; exact Int32.lt_irrefl)
      · refine ax_iload_n (i := 2) dJ9_floorMod_7cf53_14 rfl rfl ?_
        refine ax_iload_n (i := 1) dJ9_floorMod_7cf53_15 rfl rfl ?_
        refine ax_iadd dJ9_floorMod_7cf53_16 ?_
        refine ax_iret dJ9_floorMod_7cf53_17 rfl rfl ?_
        rw [show nI t - nI f + nI 48 = nI ((t % 48 + 48 - f) % 48) from by rw [Int32.sub_eq_add_neg, Int32.add_assoc, Int32.add_comm (-nI f), ← Int32.add_assoc, nI_add, ← Int32.sub_eq_add_neg, pk_sub (by omega)]; exact congrArg nI (by omega)]
        exact h
set_option maxHeartbeats 4000000 in
set_option maxRecDepth 100000 in
theorem c_shCov {E : awE} {S : awS} {Q : Option Value → awS → Nat → Nat → Prop} {k t f p : Nat} (ht : t ≤ 2000) (hf : sI S 7 k 2 = nI f ∧ f < 48) (hp : sI S 7 k 3 = nI p ∧ p < 49) (h1 : (t % 48 + 48 - f) % 48 < p → Q (some (.int 1)) S 0 0) (h0 : ¬ (t % 48 + 48 - f) % 48 < p → Q (some (.int 0)) S 0 0) : awT true E m_X6_covers [.ref (nm 7 k), .int (nI t)] S Q := by
  refine awT.of (by decide) (by decide) (Nat.le_of_ble_eq_true rfl) ?_
  refine ax_iload_n (i := 1) dX6_covers_0 rfl rfl ?_
  refine ax_aload_n (i := 0) dX6_covers_1 rfl rfl rfl ?_
  refine ax_getI dX6_covers_2 fl_X6_15 rfl rfl rfl ?_
  refine ax_top hf.1 ?_
  refine ax_isub dX6_covers_5 ?_
  refine ax_bipush (v := nI 48) dX6_covers_6 (by decide) ?_
  refine ax_invS (n := 2) (As := [_, _]) dX6_covers_8 cb_J9_floorMod_7cf53 cs_X6_24.1 cs_X6_24.2 rfl ⟨Nat.le_of_ble_eq_true rfl, Nat.le_of_ble_eq_true rfl⟩ (Nat.le_of_ble_eq_true rfl) rfl (c_floorMod ht hf.2 ?_)
  refine ax_aload_n (i := 0) dX6_covers_11 rfl rfl rfl ?_
  refine ax_getI dX6_covers_12 fl_X6_18 rfl rfl rfl ?_
  refine ax_top hp.1 ?_
  refine ax_icmp_ge (tgt := 22) dX6_covers_15 (by decide) (fun c_15 => ?_) (fun c_15 => ?_)
  · refine ax_iconst (v := 0) dX6_covers_22 (by decide) ?_
    refine ax_iret dX6_covers_23 rfl rfl ?_
    exact h0 (fun z => absurd c_15 (Int32.not_le.mpr (nI_lt z (by omega))))
  · refine ax_iconst (v := 1) dX6_covers_18 (by decide) ?_
    refine ax_goto (tgt := 23) dX6_covers_19 (by decide) ?_
    refine ax_iret dX6_covers_23 rfl rfl ?_
    exact h1 (Nat.lt_of_not_le (fun z => c_15 (nI_le z (by omega))))
set_option maxHeartbeats 4000000 in
set_option maxRecDepth 100000 in
theorem c_begunAt {E : awE} {S : awS} {Q : Option Value → awS → Nat → Nat → Prop} {r p : Nat} (hr : rulOk S r) (hp : p ≤ 10) (h : Q (some (.int (sI S 20 r p))) S 0 0) : awT true E m_X5_begunAt [.ref (nm 6 r), .int (nI p)] S Q := by
  refine awT.of (by decide) (by decide) (Nat.le_of_ble_eq_true rfl) ?_
  refine ax_iload_n (i := 1) dX5_begunAt_0 rfl rfl ?_
  refine ax_if_lt (tgt := 22) dX5_begunAt_1 (by decide) (fun c_1 => ?_) (fun c_1 => ?_)
  · exact absurd c_1 (Int32.not_lt.mpr (nI_nn (by omega)))
  · refine ax_iload_n (i := 1) dX5_begunAt_4 rfl rfl ?_
    refine ax_aload_n (i := 0) dX5_begunAt_5 rfl rfl rfl ?_
    refine ax_getR dX5_begunAt_6 fl_X5_21 rfl rfl rfl hr.2.2.1 ?_
    refine ax_alenN dX5_begunAt_9 (by decide) rfl hr.2.2.2.2.2.2.1 ?_
    refine ax_icmp_ge (tgt := 22) dX5_begunAt_10 (by decide) (fun c_10 => ?_) (fun c_10 => ?_)
    · exact absurd c_10 (Int32.not_le.mpr (nI_lt (by omega) (by decide)))
    · refine ax_aload_n (i := 0) dX5_begunAt_13 rfl rfl rfl ?_
      refine ax_getR dX5_begunAt_14 fl_X5_21 rfl rfl rfl hr.2.2.1 ?_
      refine ax_iload_n (i := 1) dX5_begunAt_17 rfl rfl ?_
      refine ax_ialdN dX5_begunAt_18 rfl rfl hr.2.2.2.2.2.2.1 (by decide) (by omega) ?_
      refine ax_goto (tgt := 23) dX5_begunAt_19 (by decide) ?_
      refine ax_iret dX5_begunAt_23 rfl rfl ?_
      exact h
set_option maxHeartbeats 4000000 in
set_option maxRecDepth 100000 in
theorem c_bget {E : awE} {S : awS} {Q : Option Value → awS → Nat → Nat → Prop} {d j : Nat} (hd : brdOk S d) (hj : j < 60) (h : Q (some (.long (sL S 25 d j))) S 0 0) : awT true E m_X1_get [.ref (nm 2 d), .int (nI j)] S Q := by
  refine awT.of (by decide) (by decide) (Nat.le_of_ble_eq_true rfl) ?_
  refine ax_iload_n (i := 1) dX1_get_0 rfl rfl ?_
  refine ax_if_lt (tgt := 22) dX1_get_1 (by decide) (fun c_1 => ?_) (fun c_1 => ?_)
  · exact absurd c_1 (Int32.not_lt.mpr (nI_nn (by omega)))
  · refine ax_iload_n (i := 1) dX1_get_4 rfl rfl ?_
    refine ax_aload_n (i := 0) dX1_get_5 rfl rfl rfl ?_
    refine ax_getR dX1_get_6 fl_X1_22 rfl rfl rfl hd.1 ?_
    refine ax_alenN dX1_get_9 (by decide) rfl hd.2 ?_
    refine ax_icmp_ge (tgt := 22) dX1_get_10 (by decide) (fun c_10 => ?_) (fun c_10 => ?_)
    · exact absurd c_10 (Int32.not_le.mpr (nI_lt (by omega) (by decide)))
    · refine ax_aload_n (i := 0) dX1_get_13 rfl rfl rfl ?_
      refine ax_getR dX1_get_14 fl_X1_22 rfl rfl rfl hd.1 ?_
      refine ax_iload_n (i := 1) dX1_get_17 rfl rfl ?_
      refine ax_laldN dX1_get_18 rfl rfl hd.2 (by decide) (by omega) ?_
      refine ax_goto (tgt := 23) dX1_get_19 (by decide) ?_
      refine ax_lret dX1_get_23 rfl ?_
      exact h
set_option maxHeartbeats 4000000 in
set_option maxRecDepth 100000 in
theorem c_bput {E : awE} {S : awS} {Q : Option Value → awS → Nat → Nat → Prop} {d j : Nat} {v : Int64} (hd : brdOk S d) (hj : j < 60) (h : Q none (wL S 25 d j v) 0 0) : awT true E m_X1_put [.ref (nm 2 d), .int (nI j), .long v] S Q := by
  refine awT.of (by decide) (by decide) (Nat.le_of_ble_eq_true rfl) ?_
  refine ax_iload_n (i := 1) dX1_put_0 rfl rfl ?_
  refine ax_if_lt (tgt := 20) dX1_put_1 (by decide) (fun c_1 => ?_) (fun c_1 => ?_)
  · exact absurd c_1 (Int32.not_lt.mpr (nI_nn (by omega)))
  · refine ax_iload_n (i := 1) dX1_put_4 rfl rfl ?_
    refine ax_aload_n (i := 0) dX1_put_5 rfl rfl rfl ?_
    refine ax_getR dX1_put_6 fl_X1_22 rfl rfl rfl hd.1 ?_
    refine ax_alenN dX1_put_9 (by decide) rfl hd.2 ?_
    refine ax_icmp_ge (tgt := 20) dX1_put_10 (by decide) (fun c_10 => ?_) (fun c_10 => ?_)
    · exact absurd c_10 (Int32.not_le.mpr (nI_lt (by omega) (by decide)))
    · refine ax_aload_n (i := 0) dX1_put_13 rfl rfl rfl ?_
      refine ax_getR dX1_put_14 fl_X1_22 rfl rfl rfl hd.1 ?_
      refine ax_iload_n (i := 1) dX1_put_17 rfl rfl ?_
      refine ax_lload_n (i := 2) dX1_put_18 rfl rfl ?_
      refine ax_lastN dX1_put_19 rfl rfl hd.2 (by decide) (by omega) ?_
      refine ax_vret dX1_put_20 rfl ?_
      exact h
set_option maxHeartbeats 4000000 in
set_option maxRecDepth 100000 in
theorem c_alarmAtL {E : awE} {S : awS} {Q : Option Value → awS → Nat → Nat → Prop} {l m : Nat} {x : Int32} (hl : letOk S l) (hm : sI S 4 l 6 = nI m ∧ m ≤ 40) (h1 : ∀ j, x = nI j → j < m → Q (some (.int (sI S 24 l j))) S 0 0) (h0 : ¬ (0 ≤ x ∧ x < nI m) → Q (some (.int (-1))) S 0 0) : awT true E m_X3_alarmAt [.ref (nm 4 l), .int x] S Q := by
  refine awT.of (by decide) (by decide) (Nat.le_of_ble_eq_true rfl) ?_
  refine ax_iload_n (i := 1) dX3_alarmAt_0 rfl rfl ?_
  refine ax_if_lt (tgt := 30) dX3_alarmAt_1 (by decide) (fun c_1 => ?_) (fun c_1 => ?_)
  · refine ax_iconst (v := -1) dX3_alarmAt_30 (by decide) ?_
    refine ax_iret dX3_alarmAt_31 rfl rfl ?_
    exact h0 (fun z => Int32.not_lt.mpr z.1 c_1)
  · refine ax_iload_n (i := 1) dX3_alarmAt_4 rfl rfl ?_
    refine ax_aload_n (i := 0) dX3_alarmAt_5 rfl rfl rfl ?_
    refine ax_getI dX3_alarmAt_6 fl_X3_19 rfl rfl rfl ?_
    refine ax_top hm.1 ?_
    refine ax_icmp_ge (tgt := 30) dX3_alarmAt_9 (by decide) (fun c_9 => ?_) (fun c_9 => ?_)
    · refine ax_iconst (v := -1) dX3_alarmAt_30 (by decide) ?_
      refine ax_iret dX3_alarmAt_31 rfl rfl ?_
      exact h0 (fun z => Int32.not_lt.mpr c_9 z.2)
    · have e_x := rg_of (n := m) (Int32.not_lt.mp c_1) (Int32.not_le.mp c_9) (by omega)
      have e_xb := e_x.2
      rw [e_x.1]
      refine ax_iload_n (i := 1) dX3_alarmAt_12 rfl rfl ?_
      refine ax_aload_n (i := 0) dX3_alarmAt_13 rfl rfl rfl ?_
      refine ax_getR dX3_alarmAt_14 fl_X3_31 rfl rfl rfl hl.2.1 ?_
      refine ax_alenN dX3_alarmAt_17 (by decide) rfl hl.2.2.2 ?_
      refine ax_icmp_ge (tgt := 30) dX3_alarmAt_18 (by decide) (fun c_18 => ?_) (fun c_18 => ?_)
      · exact absurd c_18 (Int32.not_le.mpr (nI_lt (by omega) (by decide)))
      · refine ax_aload_n (i := 0) dX3_alarmAt_21 rfl rfl rfl ?_
        refine ax_getR dX3_alarmAt_22 fl_X3_31 rfl rfl rfl hl.2.1 ?_
        refine ax_iload_n (i := 1) dX3_alarmAt_25 rfl rfl ?_
        refine ax_ialdN dX3_alarmAt_26 rfl rfl hl.2.2.2 (by decide) (by omega) ?_
        refine ax_goto (tgt := 31) dX3_alarmAt_27 (by decide) ?_
        refine ax_iret dX3_alarmAt_31 rfl rfl ?_
        exact h1 _ e_x.1 e_x.2
set_option maxHeartbeats 4000000 in
set_option maxRecDepth 100000 in
theorem c_latestHand {E : awE} {S : awS} {Q : Option Value → awS → Nat → Nat → Prop} {l p : Nat} (hl : letOk S l) (hp : sI S 4 l 9 = nI p ∧ p ≤ 8) (hz : sI S 4 l 4 ≤ 8) (h1 : nI p < sI S 4 l 4 → Q (some (.int (sI S 23 l p))) S 0 0) (h0 : ¬ nI p < sI S 4 l 4 → Q (some (.int (-2))) S 0 0) : awT true E m_X3_latestHand [.ref (nm 4 l)] S Q := by
  refine awT.of (by decide) (by decide) (Nat.le_of_ble_eq_true rfl) ?_
  refine ax_aload_n (i := 0) dX3_latestHand_0 rfl rfl rfl ?_
  refine ax_invV (c := 4) (n := 0) (As := []) dX3_latestHand_1 cb_X3_isToAll cv_X3_52.1 cv_X3_52.2.1 cv_X3_52.2.2 rfl (by decide) rfl ⟨Nat.le_of_ble_eq_true rfl, Nat.le_of_ble_eq_true rfl⟩ (Nat.le_of_ble_eq_true rfl) rfl (c_isToAll (fun c_1 => ?_) (fun c_1 => ?_))
  · refine ax_if_ne (tgt := 19) dX3_latestHand_4 (by decide) (fun _ => ?_) (fun z => absurd (by decide) z)
    refine ax_bipush (v := -2) dX3_latestHand_19 (by decide) ?_
    refine ax_goto (tgt := 33) dX3_latestHand_21 (by decide) ?_
    refine ax_iret dX3_latestHand_33 rfl rfl ?_
    exact h0 (Int32.not_lt.mpr (hp.1 ▸ c_1))
  · refine ax_if_ne (tgt := 19) dX3_latestHand_4 (by decide) (fun z => absurd z (by decide)) (fun _ => ?_)
    refine ax_aload_n (i := 0) dX3_latestHand_7 rfl rfl rfl ?_
    refine ax_getI dX3_latestHand_8 fl_X3_28 rfl rfl rfl ?_
    refine ax_top hp.1 ?_
    refine ax_aload_n (i := 0) dX3_latestHand_11 rfl rfl rfl ?_
    refine ax_getR dX3_latestHand_12 fl_X3_9 rfl rfl rfl hl.1 ?_
    refine ax_alenN dX3_latestHand_15 (by decide) rfl hl.2.2.1 ?_
    refine ax_icmp_lt (tgt := 24) dX3_latestHand_16 (by decide) (fun c_16 => ?_) (fun c_16 => ?_)
    · have hp8 : p < 8 := Nat.lt_of_not_le (fun z => absurd (Int32.lt_of_lt_of_le (Int32.not_le.mp (hp.1 ▸ c_1)) hz) (Int32.not_lt.mpr (nI_le (a := 8) z (by omega))))
      refine ax_aload_n (i := 0) dX3_latestHand_24 rfl rfl rfl ?_
      refine ax_getR dX3_latestHand_25 fl_X3_9 rfl rfl rfl hl.1 ?_
      refine ax_aload_n (i := 0) dX3_latestHand_28 rfl rfl rfl ?_
      refine ax_getI dX3_latestHand_29 fl_X3_28 rfl rfl rfl ?_
      refine ax_top hp.1 ?_
      refine ax_ialdN dX3_latestHand_32 rfl rfl hl.2.2.1 (by decide) (by omega) ?_
      refine ax_iret dX3_latestHand_33 rfl rfl ?_
      exact h1 (Int32.not_le.mp (hp.1 ▸ c_1))
    · exact absurd (Int32.not_lt.mp c_16) (Int32.not_le.mpr (Int32.lt_of_lt_of_le (Int32.not_le.mp (hp.1 ▸ c_1)) hz))
