theorem hBit_one {h i : Nat} (hh : h < 32) : hBit ((1 : Int32) <<< (nI h &&& 31)) i ↔ i = h := by
  have e : ((1 : Int32) <<< (nI h &&& 31)).toBitVec = BitVec.twoPow 32 h := (by decide +kernel : ∀ l, l < 32 → ((1 : Int32) <<< (nI l &&& 31)).toBitVec = BitVec.twoPow 32 l) h hh
  unfold hBit
  rw [e, BitVec.getLsbD_twoPow]
  simp [hh]
  exact eq_comm

set_option maxHeartbeats 400000 in
set_option maxRecDepth 100000 in
theorem c_addHolder {E : awE} {S : awS} {Q : Option Value → awS → Nat → Nat → Prop} {r q : Nat} {a : Nat} (hr : rulOk S r) (hq : q < 3) (h : Q none (wI S 19 r q (sI S 19 r q ||| ((1 : Int32) <<< (nI a &&& 31)))) 0 0) : awT true E m_X5_addHolder [.ref (nm 6 r), .int (nI a), .int (nI q)] S Q := by
  refine awT.of (by decide) (by decide) (Nat.le_of_ble_eq_true rfl) ?_
  refine ax_iload_n (i := 2) dX5_addHolder_0 rfl rfl ?_
  refine ax_if_lt (tgt := 25) dX5_addHolder_1 (by decide) (fun c_1 => ?_) (fun c_1 => ?_)
  · exact absurd c_1 (Int32.not_lt.mpr (nI_nn (by omega)))
  · refine ax_iload_n (i := 2) dX5_addHolder_4 rfl rfl ?_
    refine ax_aload_n (i := 0) dX5_addHolder_5 rfl rfl rfl ?_
    refine ax_getR dX5_addHolder_6 fl_X5_17 rfl rfl rfl hr.2.1 ?_
    refine ax_alenN dX5_addHolder_9 (by decide) rfl hr.2.2.2.2.2.1 ?_
    refine ax_icmp_ge (tgt := 25) dX5_addHolder_10 (by decide) (fun c_10 => ?_) (fun c_10 => ?_)
    · exact absurd c_10 (Int32.not_le.mpr (nI_lt (by omega) (by decide)))
    · refine ax_aload_n (i := 0) dX5_addHolder_13 rfl rfl rfl ?_
      refine ax_getR dX5_addHolder_14 fl_X5_17 rfl rfl rfl hr.2.1 ?_
      refine ax_iload_n (i := 2) dX5_addHolder_17 rfl rfl ?_
      refine ax_dup2 dX5_addHolder_18 rfl rfl ?_
      refine ax_ialdN dX5_addHolder_19 rfl rfl hr.2.2.2.2.2.1 (by decide) (by omega) ?_
      refine ax_iconst (v := 1) dX5_addHolder_20 (by decide) ?_
      refine ax_iload_n (i := 1) dX5_addHolder_21 rfl rfl ?_
      refine ax_ishl dX5_addHolder_22 ?_
      refine ax_ior dX5_addHolder_23 ?_
      refine ax_iastN dX5_addHolder_24 rfl rfl hr.2.2.2.2.2.1 (by decide) (by omega) ?_
      refine ax_vret dX5_addHolder_25 rfl ?_
      exact h
