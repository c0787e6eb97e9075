def hAll (S : awS) (r : Nat) : Nat → Int32
  | 0 => 0
  | q + 1 => hAll S r q ||| sI S 19 r q
theorem hBit_or (x y : Int32) (h : Nat) : hBit (x ||| y) h ↔ hBit x h ∨ hBit y h := by
  unfold hBit
  rw [Int32.toBitVec_or, BitVec.getLsbD_or, Bool.or_eq_true]
theorem hBit_0 (h : Nat) : ¬ hBit 0 h := by
  unfold hBit
  show ¬ (0#32).getLsbD h = true
  rw [BitVec.getLsbD_zero]
  exact Bool.false_ne_true
theorem hBit_all (S : awS) (r h : Nat) : ∀ n, hBit (hAll S r n) h ↔ ∃ q, q < n ∧ hBit (sI S 19 r q) h
  | 0 => ⟨fun z => absurd z (hBit_0 h), fun ⟨_, z, _⟩ => absurd z (Nat.not_lt_zero _)⟩
  | n + 1 => by
    unfold hAll
    rw [hBit_or, hBit_all S r h n]
    constructor
    · rintro (⟨q, q1, q2⟩ | z)
      · exact ⟨q, by omega, q2⟩
      · exact ⟨n, by omega, z⟩
    · rintro ⟨q, q1, q2⟩
      rcases Nat.lt_or_eq_of_le (Nat.le_of_lt_succ q1) with e | e
      · exact Or.inl ⟨q, e, q2⟩
      · exact Or.inr (e ▸ q2)

set_option maxHeartbeats 400000 in
set_option maxRecDepth 100000 in
theorem c_holders {E : awE} {S : awS} {Q : Option Value → awS → Nat → Nat → Prop} {r : Nat} (hr : rulOk S r) (h : Q (some (.int (hAll S r 3))) S 0 0) : awT true E m_X5_holders [.ref (nm 6 r)] S Q := by
  refine awT.of (by decide) (by decide) (Nat.le_of_ble_eq_true rfl) ?_
  have L : ∀ (m k : Nat), k + m = 3 → awX true E m_X5_holders 4 [(2, .int (nI k)), (1, .int (hAll S r k)), (0, .ref (nm 6 r))] [] S 0 0 Q := by
    intro m
    induction m with
    | zero =>
      intro k hm1 
      refine ax_iload_n (i := 2) dX5_holders_4 rfl rfl ?_
      refine ax_aload_n (i := 0) dX5_holders_5 rfl rfl rfl ?_
      refine ax_getR dX5_holders_6 fl_X5_17 rfl rfl rfl hr.2.1 ?_
      refine ax_alenN dX5_holders_9 (by decide) rfl hr.2.2.2.2.2.1 ?_
      refine ax_icmp_ge (tgt := 28) dX5_holders_10 (by decide) (fun c_10 => ?_) (fun c_10 => ?_)
      · have hk2 : k = 3 := Nat.le_antisymm (by omega) (ge_of_c (b := 3) rfl c_10 (by omega))
        refine ax_iload_n (i := 1) dX5_holders_28 rfl rfl ?_
        refine ax_iret dX5_holders_29 rfl rfl ?_
        rw [hk2]
        exact h
      · exact absurd (lt_of_c (b := 3) rfl c_10 (by omega)) (by omega)
    | succ m ih =>
      intro k hm1 
      refine ax_iload_n (i := 2) dX5_holders_4 rfl rfl ?_
      refine ax_aload_n (i := 0) dX5_holders_5 rfl rfl rfl ?_
      refine ax_getR dX5_holders_6 fl_X5_17 rfl rfl rfl hr.2.1 ?_
      refine ax_alenN dX5_holders_9 (by decide) rfl hr.2.2.2.2.2.1 ?_
      refine ax_icmp_ge (tgt := 28) dX5_holders_10 (by decide) (fun c_10 => ?_) (fun c_10 => ?_)
      · exact absurd (ge_of_c (b := 3) rfl c_10 (by omega)) (by omega)
      · have hk2 : k < 3 := lt_of_c (b := 3) rfl c_10 (by omega)
        refine ax_iload_n (i := 1) dX5_holders_13 rfl rfl ?_
        refine ax_aload_n (i := 0) dX5_holders_14 rfl rfl rfl ?_
        refine ax_getR dX5_holders_15 fl_X5_17 rfl rfl rfl hr.2.1 ?_
        refine ax_iload_n (i := 2) dX5_holders_18 rfl rfl ?_
        refine ax_ialdN dX5_holders_19 rfl rfl hr.2.2.2.2.2.1 (by decide) (by omega) ?_
        refine ax_ior dX5_holders_20 ?_
        refine ax_istore_n (i := 1) (lv' := [(1, _), (2, _), (0, _)]) dX5_holders_21 rfl (by decide) rfl ?_
        refine ax_iinc (v := _ + 1) (lv' := [(2, _), (1, _), (0, _)]) dX5_holders_22 rfl rfl (by decide) rfl ?_
        refine ax_goto (tgt := 4) dX5_holders_25 (by decide) ?_
        rw [nI_1]
        exact ax_loc rfl (ih (k + 1) (by omega))
  refine ax_iconst (v := 0) dX5_holders_0 (by decide) ?_
  refine ax_istore_n (i := 1) (lv' := [(1, _), (0, _)]) dX5_holders_1 rfl (by decide) rfl ?_
  refine ax_iconst (v := nI 0) dX5_holders_2 (by decide) ?_
  refine ax_istore_n (i := 2) (lv' := [(2, _), (1, _), (0, _)]) dX5_holders_3 rfl (by decide) rfl ?_
  exact ax_loc rfl (L 3 0 (by omega))
