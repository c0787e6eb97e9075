theorem fin2 {Q : Option Value → awS → Nat → Nat → Prop} {S : awS} {p : aM × Int32} {M : aM} {v : Int32} {kc ks : Nat} (h : Q (some (.int p.2)) (putM S p.1) kc ks) (e : p = (M, v)) : Q (some (.int v)) (putM S M) kc ks := by rw [e] at h; exact h
theorem w_le (x y : Int32) : x.toInt64 ≤ y.toInt64 ↔ x ≤ y := by
  rw [Int64.le_iff_toInt_le, Int32.le_iff_toInt_le, Int32.toInt_toInt64, Int32.toInt_toInt64]
theorem vin_of {x : Int32} {N : Nat} (h0 : 0 ≤ x) (h : x < nI N) (hN : N < 2 ^ 31) : vp_in x N := by
  rw [vp_in_iff]
  rw [Int32.lt_iff_toInt_lt, nI_toInt hN] at h
  rw [Int32.le_iff_toInt_le] at h0
  exact ⟨h0, h⟩
theorem t_isIn {b : Bool} {E : awE} {S : awS} {Q : Option Value → awS → Nat → Nat → Prop} {x lo hi : Int64} (h1 : lo ≤ x ∧ x ≤ hi → Q (some (.int 1)) S 0 0) (h0 : ¬ (lo ≤ x ∧ x ≤ hi) → Q (some (.int 0)) S 0 0) : awT b E m_X12_isIn [.long x, .long lo, .long hi] S Q := by
  refine awT.of (by decide) (by decide) (Nat.le_of_ble_eq_true rfl) ?_
  refine ax_lload_n (i := 0) dX12_isIn_0 rfl rfl ?_
  refine ax_lload_n (i := 2) dX12_isIn_1 rfl rfl ?_
  refine ax_lcmp dX12_isIn_2 ?_
  refine ax_if_lt (tgt := 17) dX12_isIn_3 (by decide) (fun c_3 => ?_) (fun c_3 => ?_)
  · refine ax_iconst (v := 0) dX12_isIn_17 (by decide) ?_
    refine ax_iret dX12_isIn_18 rfl rfl ?_
    rw [lg_cmp_lt] at c_3
    first | exact h0 (by grind) | (rw [lg_cmp_gt] at c_10; first | exact h0 (by grind) | exact h1 (by grind))
  · refine ax_lload_n (i := 0) dX12_isIn_6 rfl rfl ?_
    refine ax_lload dX12_isIn_7 rfl ?_
    refine ax_lcmp dX12_isIn_9 ?_
    refine ax_if_gt (tgt := 17) dX12_isIn_10 (by decide) (fun c_10 => ?_) (fun c_10 => ?_)
    · refine ax_iconst (v := 0) dX12_isIn_17 (by decide) ?_
      refine ax_iret dX12_isIn_18 rfl rfl ?_
      rw [lg_cmp_lt] at c_3
      first | exact h0 (by grind) | (rw [lg_cmp_gt] at c_10; first | exact h0 (by grind) | exact h1 (by grind))
    · refine ax_iconst (v := 1) dX12_isIn_13 (by decide) ?_
      refine ax_goto (tgt := 18) dX12_isIn_14 (by decide) ?_
      refine ax_iret dX12_isIn_18 rfl rfl ?_
      rw [lg_cmp_lt] at c_3
      first | exact h0 (by grind) | (rw [lg_cmp_gt] at c_10; first | exact h0 (by grind) | exact h1 (by grind))
theorem t_isInI {b : Bool} {E : awE} {S : awS} {Q : Option Value → awS → Nat → Nat → Prop} {x lo hi : Int32} (h1 : lo ≤ x ∧ x ≤ hi → Q (some (.int 1)) S 0 0) (h0 : ¬ (lo ≤ x ∧ x ≤ hi) → Q (some (.int 0)) S 0 0) : awT b E m_X12_isIn [.long x.toInt64, .long lo.toInt64, .long hi.toInt64] S Q :=
  t_isIn (fun h => h1 (by rw [w_le, w_le] at h; exact h)) (fun h => h0 (by rw [w_le, w_le] at h; exact h))
theorem t_isSource {b : Bool} {E : awE} {S : awS} {M : aM} {Q : Option Value → awS → Nat → Nat → Prop} {x : Int32} (h1 : okSource M x → Q (some (.int 1)) (putM S M) 0 0) (h0 : ¬ okSource M x → Q (some (.int 0)) (putM S M) 0 0) : awT b E m_X12_isSource [.ref (nm 13 0), .int x] (putM S M) Q := by
  refine awT.of (by decide) (by decide) (Nat.le_of_ble_eq_true rfl) ?_
  refine ax_iload_n (i := 1) dX12_isSource_0 rfl rfl ?_
  refine ax_if_lt (tgt := 16) dX12_isSource_1 (by decide) (fun c_1 => ?_) (fun c_1 => ?_)
  · refine ax_iconst (v := 0) dX12_isSource_16 (by decide) ?_
    refine ax_iret dX12_isSource_17 rfl rfl ?_
    first | exact h0 (by grind) | exact h1 (by grind)
  · refine ax_iload_n (i := 1) dX12_isSource_4 rfl rfl ?_
    refine ax_aload_n (i := 0) dX12_isSource_5 rfl rfl rfl ?_
    refine ax_mS dX12_isSource_6 fl_X12_231 rfl ?_
    refine ax_icmp_ge (tgt := 16) dX12_isSource_9 (by decide) (fun c_9 => ?_) (fun c_9 => ?_)
    · refine ax_iconst (v := 0) dX12_isSource_16 (by decide) ?_
      refine ax_iret dX12_isSource_17 rfl rfl ?_
      first | exact h0 (by grind) | exact h1 (by grind)
    · refine ax_iconst (v := 1) dX12_isSource_12 (by decide) ?_
      refine ax_goto (tgt := 17) dX12_isSource_13 (by decide) ?_
      refine ax_iret dX12_isSource_17 rfl rfl ?_
      first | exact h0 (by grind) | exact h1 (by grind)
theorem t_isRule {b : Bool} {E : awE} {S : awS} {M : aM} {Q : Option Value → awS → Nat → Nat → Prop} {x : Int32} (h1 : okRule M x → Q (some (.int 1)) (putM S M) 0 0) (h0 : ¬ okRule M x → Q (some (.int 0)) (putM S M) 0 0) : awT b E m_X12_isRule [.ref (nm 13 0), .int x] (putM S M) Q := by
  refine awT.of (by decide) (by decide) (Nat.le_of_ble_eq_true rfl) ?_
  refine ax_iload_n (i := 1) dX12_isRule_0 rfl rfl ?_
  refine ax_if_lt (tgt := 16) dX12_isRule_1 (by decide) (fun c_1 => ?_) (fun c_1 => ?_)
  · refine ax_iconst (v := 0) dX12_isRule_16 (by decide) ?_
    refine ax_iret dX12_isRule_17 rfl rfl ?_
    first | exact h0 (by grind) | exact h1 (by grind)
  · refine ax_iload_n (i := 1) dX12_isRule_4 rfl rfl ?_
    refine ax_aload_n (i := 0) dX12_isRule_5 rfl rfl rfl ?_
    refine ax_mS dX12_isRule_6 fl_X12_234 rfl ?_
    refine ax_icmp_ge (tgt := 16) dX12_isRule_9 (by decide) (fun c_9 => ?_) (fun c_9 => ?_)
    · refine ax_iconst (v := 0) dX12_isRule_16 (by decide) ?_
      refine ax_iret dX12_isRule_17 rfl rfl ?_
      first | exact h0 (by grind) | exact h1 (by grind)
    · refine ax_iconst (v := 1) dX12_isRule_12 (by decide) ?_
      refine ax_goto (tgt := 17) dX12_isRule_13 (by decide) ?_
      refine ax_iret dX12_isRule_17 rfl rfl ?_
      first | exact h0 (by grind) | exact h1 (by grind)
theorem t_isHand {b : Bool} {E : awE} {S : awS} {M : aM} {Q : Option Value → awS → Nat → Nat → Prop} {x : Int32} (h1 : okHand M x → Q (some (.int 1)) (putM S M) 0 0) (h0 : ¬ okHand M x → Q (some (.int 0)) (putM S M) 0 0) : awT b E m_X12_isHand [.ref (nm 13 0), .int x] (putM S M) Q := by
  refine awT.of (by decide) (by decide) (Nat.le_of_ble_eq_true rfl) ?_
  refine ax_iload_n (i := 1) dX12_isHand_0 rfl rfl ?_
  refine ax_if_lt (tgt := 16) dX12_isHand_1 (by decide) (fun c_1 => ?_) (fun c_1 => ?_)
  · refine ax_iconst (v := 0) dX12_isHand_16 (by decide) ?_
    refine ax_iret dX12_isHand_17 rfl rfl ?_
    first | exact h0 (by grind) | exact h1 (by grind)
  · refine ax_iload_n (i := 1) dX12_isHand_4 rfl rfl ?_
    refine ax_aload_n (i := 0) dX12_isHand_5 rfl rfl rfl ?_
    refine ax_mS dX12_isHand_6 fl_X12_237 rfl ?_
    refine ax_icmp_ge (tgt := 16) dX12_isHand_9 (by decide) (fun c_9 => ?_) (fun c_9 => ?_)
    · refine ax_iconst (v := 0) dX12_isHand_16 (by decide) ?_
      refine ax_iret dX12_isHand_17 rfl rfl ?_
      first | exact h0 (by grind) | exact h1 (by grind)
    · refine ax_iconst (v := 1) dX12_isHand_12 (by decide) ?_
      refine ax_goto (tgt := 17) dX12_isHand_13 (by decide) ?_
      refine ax_iret dX12_isHand_17 rfl rfl ?_
      first | exact h0 (by grind) | exact h1 (by grind)
theorem t_isLetter {b : Bool} {E : awE} {S : awS} {M : aM} {Q : Option Value → awS → Nat → Nat → Prop} {x : Int32} (h1 : okLetter M x → Q (some (.int 1)) (putM S M) 0 0) (h0 : ¬ okLetter M x → Q (some (.int 0)) (putM S M) 0 0) : awT b E m_X12_isLetter [.ref (nm 13 0), .int x] (putM S M) Q := by
  refine awT.of (by decide) (by decide) (Nat.le_of_ble_eq_true rfl) ?_
  refine ax_iload_n (i := 1) dX12_isLetter_0 rfl rfl ?_
  refine ax_if_lt (tgt := 16) dX12_isLetter_1 (by decide) (fun c_1 => ?_) (fun c_1 => ?_)
  · refine ax_iconst (v := 0) dX12_isLetter_16 (by decide) ?_
    refine ax_iret dX12_isLetter_17 rfl rfl ?_
    first | exact h0 (by grind) | exact h1 (by grind)
  · refine ax_iload_n (i := 1) dX12_isLetter_4 rfl rfl ?_
    refine ax_aload_n (i := 0) dX12_isLetter_5 rfl rfl rfl ?_
    refine ax_mS dX12_isLetter_6 fl_X12_362 rfl ?_
    refine ax_icmp_ge (tgt := 16) dX12_isLetter_9 (by decide) (fun c_9 => ?_) (fun c_9 => ?_)
    · refine ax_iconst (v := 0) dX12_isLetter_16 (by decide) ?_
      refine ax_iret dX12_isLetter_17 rfl rfl ?_
      first | exact h0 (by grind) | exact h1 (by grind)
    · refine ax_iconst (v := 1) dX12_isLetter_12 (by decide) ?_
      refine ax_goto (tgt := 17) dX12_isLetter_13 (by decide) ?_
      refine ax_iret dX12_isLetter_17 rfl rfl ?_
      first | exact h0 (by grind) | exact h1 (by grind)
theorem t_isBoard {b : Bool} {E : awE} {S : awS} {Q : Option Value → awS → Nat → Nat → Prop} {x : Int32} (h1 : okBoard x → Q (some (.int 1)) S 0 0) (h0 : ¬ okBoard x → Q (some (.int 0)) S 0 0) : awT b E m_X12_isBoard [.int x] S Q := by
  refine awT.of (by decide) (by decide) (Nat.le_of_ble_eq_true rfl) ?_
  refine ax_iload_n (i := 0) dX12_isBoard_0 rfl rfl ?_
  refine ax_if_lt (tgt := 14) dX12_isBoard_1 (by decide) (fun c_1 => ?_) (fun c_1 => ?_)
  · refine ax_iconst (v := 0) dX12_isBoard_14 (by decide) ?_
    refine ax_iret dX12_isBoard_15 rfl rfl ?_
    first | exact h0 (by grind) | exact h1 (by grind)
  · refine ax_iload_n (i := 0) dX12_isBoard_4 rfl rfl ?_
    refine ax_bipush (v := 8) dX12_isBoard_5 (by decide) ?_
    refine ax_icmp_ge (tgt := 14) dX12_isBoard_7 (by decide) (fun c_7 => ?_) (fun c_7 => ?_)
    · refine ax_iconst (v := 0) dX12_isBoard_14 (by decide) ?_
      refine ax_iret dX12_isBoard_15 rfl rfl ?_
      first | exact h0 (by grind) | exact h1 (by grind)
    · refine ax_iconst (v := 1) dX12_isBoard_10 (by decide) ?_
      refine ax_goto (tgt := 15) dX12_isBoard_11 (by decide) ?_
      refine ax_iret dX12_isBoard_15 rfl rfl ?_
      first | exact h0 (by grind) | exact h1 (by grind)
