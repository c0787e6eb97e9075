theorem sWakeH_t {M : aM} {k h : Nat} {S : awS} (c : sI S 27 0 h = mA M 54 k ∧ mA M 57 k < sI S 28 0 h) : sWakeH M k h S = wI S 28 0 h (mA M 57 k) := if_pos c
theorem sWakeH_f {M : aM} {k h : Nat} {S : awS} (c : ¬ (sI S 27 0 h = mA M 54 k ∧ mA M 57 k < sI S 28 0 h)) : sWakeH M k h S = S := if_neg c
theorem ax_sE {b : Bool} {E : awE} {Mt : awM} {pc : Nat} {lv : List (Nat × Value)} {st : List Value} {S S' : awS} {kc ks : Nat} {Q : Option Value → awS → Nat → Nat → Prop} (e : S = S') (k : awX b E Mt pc lv st S' kc ks Q) : awX b E Mt pc lv st S kc ks Q := e ▸ k
abbrev swpOk (S : awS) (M : aM) : Prop := ∀ k, k < mN M 58 → sI S 10 k 0 = mA M 59 k ∧ sI S 10 k 1 = mA M 60 k ∧ sI S 10 k 2 = mA M 61 k ∧ sI S 10 k 3 = mA M 62 k
abbrev sftOk (S : awS) (M : aM) : Prop := ∀ k, k < mN M 53 → sI S 7 k 0 = mA M 54 k ∧ sI S 7 k 1 = mA M 57 k ∧ sI S 7 k 2 = mA M 55 k ∧ sI S 7 k 3 = mA M 56 k
theorem cFr.swp {f i : Nat} {S S' : awS} {M : aM} (h : cFr f i S S') (hf : ¬ f = 10) (r : swpOk S M) : swpOk S' M := fun k hk => by
  have e : ∀ j, sI S' 10 k j = sI S 10 k j := fun j => h.rd (by decide) (by decide) (fun z => hf z.1.symm)
  rw [e, e, e, e]
  exact r k hk
theorem cFr.sft {f i : Nat} {S S' : awS} {M : aM} (h : cFr f i S S') (hf : ¬ f = 7) (r : sftOk S M) : sftOk S' M := fun k hk => by
  have e : ∀ j, sI S' 7 k j = sI S 7 k j := fun j => h.rd (by decide) (by decide) (fun z => hf z.1.symm)
  rw [e, e, e, e]
  exact r k hk
/-- the hands that shifts and swaps name are there -/
abbrev hndOk (M : aM) : Prop := mN M 52 ≤ 8 ∧ mN M 53 ≤ 40 ∧ mN M 58 ≤ 20 ∧ (∀ k, k < mN M 53 → (mA M 54 k = nI (mE M 54 k) ∧ mE M 54 k < mN M 52) ∧ (mA M 55 k = nI (mE M 55 k) ∧ mE M 55 k < 48) ∧ mA M 56 k = nI (mE M 56 k) ∧ mE M 56 k < 49) ∧ ∀ k, k < mN M 58 → (mA M 59 k = nI (mE M 59 k) ∧ mE M 59 k < mN M 52) ∧ mA M 60 k = nI (mE M 60 k) ∧ mE M 60 k < mN M 52

set_option maxHeartbeats 4000000 in
set_option maxRecDepth 100000 in
theorem c_exchange {E : awE} {S : awS} {Q : Option Value → awS → Nat → Nat → Prop} {M : aM} {a c : Nat} (r : rosOk S M) (h8 : mN M 52 ≤ 8) (ha : a < mN M 52) (hc : c < mN M 52) (h : Q none (sExch a c S) 0 0) : awT true E m_X4_exchange [.ref (nm 5 0), .int (nI a), .int (nI c)] S Q := by
  refine awT.of (by decide) (by decide) (Nat.le_of_ble_eq_true rfl) ?_
  refine ax_aload_n (i := 0) dX4_exchange_0 rfl rfl rfl ?_
  refine ax_iload_n (i := 1) dX4_exchange_1 rfl rfl ?_
  refine ax_invV (c := 5) (n := 1) (As := [_]) dX4_exchange_2 cb_X4_hasHand cv_X4_67.1 cv_X4_67.2.1 cv_X4_67.2.2 rfl (by decide) rfl ⟨Nat.le_of_ble_eq_true rfl, Nat.le_of_ble_eq_true rfl⟩ (Nat.le_of_ble_eq_true rfl) rfl (c_hasHand (fun c_2 => ?_) (fun c_2 => ?_))
  · refine ax_if_eq (tgt := 60) dX4_exchange_5 (by decide) (fun z => absurd z (by decide)) (fun _ => ?_)
    refine ax_iload_n (i := 1) dX4_exchange_8 rfl rfl ?_
    refine ax_aload_n (i := 0) dX4_exchange_9 rfl rfl rfl ?_
    refine ax_getR dX4_exchange_10 fl_X4_25 rfl rfl rfl r.2.2.1 ?_
    refine ax_alenN dX4_exchange_13 (by decide) rfl r.2.2.2.2.1 ?_
    refine ax_icmp_ge (tgt := 60) dX4_exchange_14 (by decide) (fun c_14 => ?_) (fun c_14 => ?_)
    · exact absurd c_14 (Int32.not_le.mpr (nI_lt (by omega) (by decide)))
    · refine ax_aload_n (i := 0) dX4_exchange_17 rfl rfl rfl ?_
      refine ax_iload_n (i := 2) dX4_exchange_18 rfl rfl ?_
      refine ax_invV (c := 5) (n := 1) (As := [_]) dX4_exchange_19 cb_X4_hasHand cv_X4_67.1 cv_X4_67.2.1 cv_X4_67.2.2 rfl (by decide) rfl ⟨Nat.le_of_ble_eq_true rfl, Nat.le_of_ble_eq_true rfl⟩ (Nat.le_of_ble_eq_true rfl) rfl (c_hasHand (fun c_19 => ?_) (fun c_19 => ?_))
      · refine ax_if_eq (tgt := 60) dX4_exchange_22 (by decide) (fun z => absurd z (by decide)) (fun _ => ?_)
        refine ax_iload_n (i := 2) dX4_exchange_25 rfl rfl ?_
        refine ax_aload_n (i := 0) dX4_exchange_26 rfl rfl rfl ?_
        refine ax_getR dX4_exchange_27 fl_X4_25 rfl rfl rfl r.2.2.1 ?_
        refine ax_alenN dX4_exchange_30 (by decide) rfl r.2.2.2.2.1 ?_
        refine ax_icmp_ge (tgt := 60) dX4_exchange_31 (by decide) (fun c_31 => ?_) (fun c_31 => ?_)
        · exact absurd c_31 (Int32.not_le.mpr (nI_lt (by omega) (by decide)))
        · refine ax_aload_n (i := 0) dX4_exchange_34 rfl rfl rfl ?_
          refine ax_getR dX4_exchange_35 fl_X4_25 rfl rfl rfl r.2.2.1 ?_
          refine ax_iload_n (i := 1) dX4_exchange_38 rfl rfl ?_
          refine ax_ialdN dX4_exchange_39 rfl rfl r.2.2.2.2.1 (by decide) (by omega) ?_
          refine ax_istore_n (i := 3) (lv' := [(3, _), (0, _), (1, _), (2, _)]) dX4_exchange_40 rfl (by decide) rfl ?_
          refine ax_aload_n (i := 0) dX4_exchange_41 rfl rfl rfl ?_
          refine ax_getR dX4_exchange_42 fl_X4_25 rfl rfl rfl r.2.2.1 ?_
          refine ax_iload_n (i := 1) dX4_exchange_45 rfl rfl ?_
          refine ax_aload_n (i := 0) dX4_exchange_46 rfl rfl rfl ?_
          refine ax_getR dX4_exchange_47 fl_X4_25 rfl rfl rfl r.2.2.1 ?_
          refine ax_iload_n (i := 2) dX4_exchange_50 rfl rfl ?_
          refine ax_ialdN dX4_exchange_51 rfl rfl r.2.2.2.2.1 (by decide) (by omega) ?_
          refine ax_iastN dX4_exchange_52 rfl rfl r.2.2.2.2.1 (by decide) (by omega) ?_
          refine ax_aload_n (i := 0) dX4_exchange_53 rfl rfl rfl ?_
          refine ax_getR dX4_exchange_54 fl_X4_25 rfl rfl rfl r.2.2.1 ?_
          refine ax_iload_n (i := 2) dX4_exchange_57 rfl rfl ?_
          refine ax_iload_n (i := 3) dX4_exchange_58 rfl rfl ?_
          refine ax_iastN dX4_exchange_59 rfl rfl r.2.2.2.2.1 (by decide) (by omega) ?_
          refine ax_vret dX4_exchange_60 rfl ?_
          exact h
      · exact absurd ⟨nI_nn (by omega), by rw [r.2.2.2.2.2.2.2.2.1]; exact nI_lt hc (by omega)⟩ c_19
  · exact absurd ⟨nI_nn (by omega), by rw [r.2.2.2.2.2.2.2.2.1]; exact nI_lt ha (by omega)⟩ c_2
set_option maxHeartbeats 4000000 in
set_option maxRecDepth 100000 in
theorem c_stand {E : awE} {S : awS} {Q : Option Value → awS → Nat → Nat → Prop} {M : aM} {t : Nat} (r : rosOk S M) (hw : swpOk S M) (hO : hndOk M) (h : Q none (sStand M t S) 0 0) : awT true E m_X4_stand [.ref (nm 5 0), .int (nI t)] S Q := by
  refine awT.of (by decide) (by decide) (Nat.le_of_ble_eq_true rfl) ?_
  have e_b : mN M 58 ≤ 20 := hO.2.2.1
  have L2 : ∀ (m k : Nat), k + m = (mN M 58) → awX true E m_X4_stand 26 [(2, .int (nI k)), (0, .ref (nm 5 0)), (1, .int (nI t))] [] (sStand1 M t k (sStand0 8 S)) 0 0 Q := by
    intro m
    induction m with
    | zero =>
      intro k hm1 
      have fr2 : cFr 26 0 S (sStand1 M t k (sStand0 8 S)) := (frStand0 26 0 8 S).tr (frStand1 26 0 M t k _)
      have r2 := fr2.ros (by decide) r
      have q2 := fr2.swp (by decide) hw
      refine ax_iload_n (i := 2) dX4_stand_26 rfl rfl ?_
      refine ax_aload_n (i := 0) dX4_stand_27 rfl rfl rfl ?_
      refine ax_getR dX4_stand_28 fl_X4_22 rfl rfl rfl r2.2.1 ?_
      refine ax_invV (c := 0) (n := 0) (As := []) dX4_stand_31 cb_Jx4a65c_size_8abf5 cv_X4_32.1 cv_X4_32.2.1 cv_X4_32.2.2 rfl (by decide) rfl ⟨Nat.le_of_ble_eq_true rfl, Nat.le_of_ble_eq_true rfl⟩ (Nat.le_of_ble_eq_true rfl) rfl (t_lsSize (q := 8) (by decide) r2.2.2.2.2.2.2.2.1 r2.2.2.2.2.2.2.2.2.2.2 (by omega) ?_)
      refine ax_icmp_ge (tgt := 75) dX4_stand_34 (by decide) (fun c_34 => ?_) (fun c_34 => ?_)
      · have hk2 : k = (mN M 58) := Nat.le_antisymm (by omega) (ge_of_c (b := (mN M 58)) rfl c_34 (by omega))
        refine ax_vret dX4_stand_75 rfl ?_
        rw [hk2]
        exact h
      · exact absurd (lt_of_c (b := (mN M 58)) rfl c_34 (by omega)) (by omega)
    | succ m ih =>
      intro k hm1 
      have fr2 : cFr 26 0 S (sStand1 M t k (sStand0 8 S)) := (frStand0 26 0 8 S).tr (frStand1 26 0 M t k _)
      have r2 := fr2.ros (by decide) r
      have q2 := fr2.swp (by decide) hw
      refine ax_iload_n (i := 2) dX4_stand_26 rfl rfl ?_
      refine ax_aload_n (i := 0) dX4_stand_27 rfl rfl rfl ?_
      refine ax_getR dX4_stand_28 fl_X4_22 rfl rfl rfl r2.2.1 ?_
      refine ax_invV (c := 0) (n := 0) (As := []) dX4_stand_31 cb_Jx4a65c_size_8abf5 cv_X4_32.1 cv_X4_32.2.1 cv_X4_32.2.2 rfl (by decide) rfl ⟨Nat.le_of_ble_eq_true rfl, Nat.le_of_ble_eq_true rfl⟩ (Nat.le_of_ble_eq_true rfl) rfl (t_lsSize (q := 8) (by decide) r2.2.2.2.2.2.2.2.1 r2.2.2.2.2.2.2.2.2.2.2 (by omega) ?_)
      refine ax_icmp_ge (tgt := 75) dX4_stand_34 (by decide) (fun c_34 => ?_) (fun c_34 => ?_)
      · exact absurd (ge_of_c (b := (mN M 58)) rfl c_34 (by omega)) (by omega)
      · have hk2 : k < (mN M 58) := lt_of_c (b := (mN M 58)) rfl c_34 (by omega)
        refine ax_aload_n (i := 0) dX4_stand_37 rfl rfl rfl ?_
        refine ax_getR dX4_stand_38 fl_X4_22 rfl rfl rfl r2.2.1 ?_
        refine ax_iload_n (i := 2) dX4_stand_41 rfl rfl ?_
        refine ax_invV (c := 0) (n := 1) (As := [_]) dX4_stand_42 cb_Jx4a65c_get_915e3 cv_X4_47.1 cv_X4_47.2.1 cv_X4_47.2.2 rfl (by decide) rfl ⟨Nat.le_of_ble_eq_true rfl, Nat.le_of_ble_eq_true rfl⟩ (Nat.le_of_ble_eq_true rfl) rfl (t_lsGet (q := 8) (by decide) r2.2.2.2.2.2.2.2.1 r2.2.2.2.2.2.2.2.2.2.2 (by omega) (by omega) ?_)
        refine ax_cast (c := 10) dX4_stand_45 kl_X4_51 rfl (by decide) ?_
        refine ax_astore_n (i := 3) (lv' := [(3, _), (2, _), (0, _), (1, _)]) dX4_stand_48 rfl (by decide) rfl rfl ?_
        refine ax_aload_n (i := 3) dX4_stand_49 rfl rfl rfl ?_
        refine ax_iload_n (i := 1) dX4_stand_50 rfl rfl ?_
        refine ax_invV (c := 10) (n := 1) (As := [_]) dX4_stand_51 cb_X9_covers cv_X4_53.1 cv_X4_53.2.1 cv_X4_53.2.2 rfl (by decide) rfl ⟨Nat.le_of_ble_eq_true rfl, Nat.le_of_ble_eq_true rfl⟩ (Nat.le_of_ble_eq_true rfl) rfl (c_swCov (fun c_51 => ?_) (fun c_51 => ?_))
        · refine ax_if_eq (tgt := 69) dX4_stand_54 (by decide) (fun z => absurd z (by decide)) (fun _ => ?_)
          refine ax_aload_n (i := 0) dX4_stand_57 rfl rfl rfl ?_
          refine ax_aload_n (i := 3) dX4_stand_58 rfl rfl rfl ?_
          refine ax_getI dX4_stand_59 fl_X4_57 rfl rfl rfl ?_
          refine ax_top ((q2 k hk2).1.trans (hO.2.2.2.2 k hk2).1.1) ?_
          refine ax_aload_n (i := 3) dX4_stand_62 rfl rfl rfl ?_
          refine ax_getI dX4_stand_63 fl_X4_60 rfl rfl rfl ?_
          refine ax_top ((q2 k hk2).2.1.trans (hO.2.2.2.2 k hk2).2.1) ?_
          refine ax_invV (c := 5) (n := 2) (As := [_, _]) dX4_stand_66 cb_X4_exchange cv_X4_63.1 cv_X4_63.2.1 cv_X4_63.2.2 rfl (by decide) rfl ⟨Nat.le_of_ble_eq_true rfl, Nat.le_of_ble_eq_true rfl⟩ (Nat.le_of_ble_eq_true rfl) rfl (c_exchange r2 hO.1 (hO.2.2.2.2 k hk2).1.2 (hO.2.2.2.2 k hk2).2.2 ?_)
          refine ax_sE (S' := sStand1 M t (k + 1) (sStand0 8 S)) ?_ ?_
          · show _ = sSwap M t k (sStand1 M t k (sStand0 8 S))
            unfold sSwap
            rw [if_pos (by rw [← (q2 k hk2).2.2.1, ← (q2 k hk2).2.2.2]; exact c_51)]
          refine ax_iinc (v := _ + 1) (lv' := [(2, _), (3, _), (0, _), (1, _)]) dX4_stand_69 rfl rfl (by decide) rfl ?_
          refine ax_goto (tgt := 26) dX4_stand_72 (by decide) ?_
          rw [nI_1]
          exact ax_loc rfl (ih (k + 1) (by omega))
        · refine ax_if_eq (tgt := 69) dX4_stand_54 (by decide) (fun _ => ?_) (fun z => absurd (by decide) z)
          refine ax_sE (S' := sStand1 M t (k + 1) (sStand0 8 S)) ?_ ?_
          · show _ = sSwap M t k (sStand1 M t k (sStand0 8 S))
            unfold sSwap
            rw [if_neg (by rw [← (q2 k hk2).2.2.1, ← (q2 k hk2).2.2.2]; exact c_51)]
          refine ax_iinc (v := _ + 1) (lv' := [(2, _), (3, _), (0, _), (1, _)]) dX4_stand_69 rfl rfl (by decide) rfl ?_
          refine ax_goto (tgt := 26) dX4_stand_72 (by decide) ?_
          rw [nI_1]
          exact ax_loc rfl (ih (k + 1) (by omega))
  have L1 : ∀ (m k : Nat), k + m = 8 → awX true E m_X4_stand 2 [(2, .int (nI k)), (0, .ref (nm 5 0)), (1, .int (nI t))] [] (sStand0 k S) 0 0 Q := by
    intro m
    induction m with
    | zero =>
      intro k hm1 
      have r1 := (frStand0 26 0 k S).ros (by decide) r
      refine ax_iload_n (i := 2) dX4_stand_2 rfl rfl ?_
      refine ax_aload_n (i := 0) dX4_stand_3 rfl rfl rfl ?_
      refine ax_getR dX4_stand_4 fl_X4_25 rfl rfl rfl r1.2.2.1 ?_
      refine ax_alenN dX4_stand_7 (by decide) rfl r1.2.2.2.2.1 ?_
      refine ax_icmp_ge (tgt := 24) dX4_stand_8 (by decide) (fun c_8 => ?_) (fun c_8 => ?_)
      · have hk2 : k = 8 := Nat.le_antisymm (by omega) (ge_of_c (b := 8) rfl c_8 (by omega))
        refine ax_iconst (v := nI 0) dX4_stand_24 (by decide) ?_
        refine ax_istore_n (i := 2) (lv' := [(2, _), (0, _), (1, _)]) dX4_stand_25 rfl (by decide) rfl ?_
        rw [hk2]
        exact ax_loc rfl (L2 (mN M 58) 0 (by omega))
      · exact absurd (lt_of_c (b := 8) rfl c_8 (by omega)) (by omega)
    | succ m ih =>
      intro k hm1 
      have r1 := (frStand0 26 0 k S).ros (by decide) r
      refine ax_iload_n (i := 2) dX4_stand_2 rfl rfl ?_
      refine ax_aload_n (i := 0) dX4_stand_3 rfl rfl rfl ?_
      refine ax_getR dX4_stand_4 fl_X4_25 rfl rfl rfl r1.2.2.1 ?_
      refine ax_alenN dX4_stand_7 (by decide) rfl r1.2.2.2.2.1 ?_
      refine ax_icmp_ge (tgt := 24) dX4_stand_8 (by decide) (fun c_8 => ?_) (fun c_8 => ?_)
      · exact absurd (ge_of_c (b := 8) rfl c_8 (by omega)) (by omega)
      · have hk2 : k < 8 := lt_of_c (b := 8) rfl c_8 (by omega)
        refine ax_aload_n (i := 0) dX4_stand_11 rfl rfl rfl ?_
        refine ax_getR dX4_stand_12 fl_X4_25 rfl rfl rfl r1.2.2.1 ?_
        refine ax_iload_n (i := 2) dX4_stand_15 rfl rfl ?_
        refine ax_iload_n (i := 2) dX4_stand_16 rfl rfl ?_
        refine ax_iastN dX4_stand_17 rfl rfl r1.2.2.2.2.1 (by decide) (by omega) ?_
        refine ax_iinc (v := _ + 1) (lv' := [(2, _), (0, _), (1, _)]) dX4_stand_18 rfl rfl (by decide) rfl ?_
        refine ax_goto (tgt := 2) dX4_stand_21 (by decide) ?_
        rw [nI_1]
        exact ax_loc rfl (ih (k + 1) (by omega))
  refine ax_iconst (v := nI 0) dX4_stand_0 (by decide) ?_
  refine ax_istore_n (i := 2) (lv' := [(2, _), (0, _), (1, _)]) dX4_stand_1 rfl (by decide) rfl ?_
  exact ax_loc rfl (L1 8 0 (by omega))
set_option maxHeartbeats 4000000 in
set_option maxRecDepth 100000 in
theorem c_wakeAt {E : awE} {S : awS} {Q : Option Value → awS → Nat → Nat → Prop} {M : aM} {k : Nat} (r : rosOk S M) (hk : sI S 7 k 0 = mA M 54 k ∧ sI S 7 k 1 = mA M 57 k) (hq : Q none (mIter (sWakeH M k) 8 S) 0 0) : awT true E m_X4_wakeAt [.ref (nm 5 0), .ref (nm 7 k)] S Q := by
  refine awT.of (by decide) (by decide) (Nat.le_of_ble_eq_true rfl) ?_
  have L : ∀ (m h : Nat), h + m = 8 → awX true E m_X4_wakeAt 2 [(2, .int (nI h)), (0, .ref (nm 5 0)), (1, .ref (nm 7 k))] [] (mIter (sWakeH M k) h S) 0 0 Q := by
    intro m
    induction m with
    | zero =>
      intro h hm1 
      have fr2 : cFr 26 0 S (mIter (sWakeH M k) h S) := cFr.it (p := fun S => S) (fun j a => frWakeH 26 0 M k j a) h S
      have r2 := fr2.ros (by decide) r
      have q2 : sI (mIter (sWakeH M k) h S) 7 k 0 = mA M 54 k := (fr2.rd (by decide) (by decide) (fun z => absurd z.1 (by decide))).trans hk.1
      have q3 : sI (mIter (sWakeH M k) h S) 7 k 1 = mA M 57 k := (fr2.rd (by decide) (by decide) (fun z => absurd z.1 (by decide))).trans hk.2
      refine ax_iload_n (i := 2) dX4_wakeAt_2 rfl rfl ?_
      refine ax_aload_n (i := 0) dX4_wakeAt_3 rfl rfl rfl ?_
      refine ax_getR dX4_wakeAt_4 fl_X4_29 rfl rfl rfl r2.2.2.2.1 ?_
      refine ax_alenN dX4_wakeAt_7 (by decide) rfl r2.2.2.2.2.2.1 ?_
      refine ax_icmp_ge (tgt := 58) dX4_wakeAt_8 (by decide) (fun c_8 => ?_) (fun c_8 => ?_)
      · have hh2 : h = 8 := Nat.le_antisymm (by omega) (ge_of_c (b := 8) rfl c_8 (by omega))
        refine ax_vret dX4_wakeAt_58 rfl ?_
        rw [hh2]
        exact hq
      · exact absurd (lt_of_c (b := 8) rfl c_8 (by omega)) (by omega)
    | succ m ih =>
      intro h hm1 
      have fr2 : cFr 26 0 S (mIter (sWakeH M k) h S) := cFr.it (p := fun S => S) (fun j a => frWakeH 26 0 M k j a) h S
      have r2 := fr2.ros (by decide) r
      have q2 : sI (mIter (sWakeH M k) h S) 7 k 0 = mA M 54 k := (fr2.rd (by decide) (by decide) (fun z => absurd z.1 (by decide))).trans hk.1
      have q3 : sI (mIter (sWakeH M k) h S) 7 k 1 = mA M 57 k := (fr2.rd (by decide) (by decide) (fun z => absurd z.1 (by decide))).trans hk.2
      refine ax_iload_n (i := 2) dX4_wakeAt_2 rfl rfl ?_
      refine ax_aload_n (i := 0) dX4_wakeAt_3 rfl rfl rfl ?_
      refine ax_getR dX4_wakeAt_4 fl_X4_29 rfl rfl rfl r2.2.2.2.1 ?_
      refine ax_alenN dX4_wakeAt_7 (by decide) rfl r2.2.2.2.2.2.1 ?_
      refine ax_icmp_ge (tgt := 58) dX4_wakeAt_8 (by decide) (fun c_8 => ?_) (fun c_8 => ?_)
      · exact absurd (ge_of_c (b := 8) rfl c_8 (by omega)) (by omega)
      · have hh2 : h < 8 := lt_of_c (b := 8) rfl c_8 (by omega)
        refine ax_iload_n (i := 2) dX4_wakeAt_11 rfl rfl ?_
        refine ax_aload_n (i := 0) dX4_wakeAt_12 rfl rfl rfl ?_
        refine ax_getR dX4_wakeAt_13 fl_X4_25 rfl rfl rfl r2.2.2.1 ?_
        refine ax_alenN dX4_wakeAt_16 (by decide) rfl r2.2.2.2.2.1 ?_
        refine ax_icmp_ge (tgt := 58) dX4_wakeAt_17 (by decide) (fun c_17 => ?_) (fun c_17 => ?_)
        · exact absurd c_17 (Int32.not_le.mpr (nI_lt (by omega) (by decide)))
        · refine ax_aload_n (i := 0) dX4_wakeAt_20 rfl rfl rfl ?_
          refine ax_getR dX4_wakeAt_21 fl_X4_25 rfl rfl rfl r2.2.2.1 ?_
          refine ax_iload_n (i := 2) dX4_wakeAt_24 rfl rfl ?_
          refine ax_ialdN dX4_wakeAt_25 rfl rfl r2.2.2.2.2.1 (by decide) (by omega) ?_
          refine ax_aload_n (i := 1) dX4_wakeAt_26 rfl rfl rfl ?_
          refine ax_getI dX4_wakeAt_27 fl_X4_83 rfl rfl rfl ?_
          refine ax_icmp_ne (tgt := 52) dX4_wakeAt_30 (by decide) (fun c_30 => ?_) (fun c_30 => ?_)
          · refine ax_sE (S' := mIter (sWakeH M k) (h + 1) S) ?_ ?_
            · show _ = sWakeH M k h (mIter (sWakeH M k) h S)
              exact (sWakeH_f (fun z => c_30 (z.1.trans q2.symm))).symm
            refine ax_iinc (v := _ + 1) (lv' := [(2, _), (0, _), (1, _)]) dX4_wakeAt_52 rfl rfl (by decide) rfl ?_
            refine ax_goto (tgt := 2) dX4_wakeAt_55 (by decide) ?_
            rw [nI_1]
            exact ax_loc rfl (ih (h + 1) (by omega))
          · refine ax_aload_n (i := 0) dX4_wakeAt_33 rfl rfl rfl ?_
            refine ax_getR dX4_wakeAt_34 fl_X4_29 rfl rfl rfl r2.2.2.2.1 ?_
            refine ax_iload_n (i := 2) dX4_wakeAt_37 rfl rfl ?_
            refine ax_aload_n (i := 0) dX4_wakeAt_38 rfl rfl rfl ?_
            refine ax_getR dX4_wakeAt_39 fl_X4_29 rfl rfl rfl r2.2.2.2.1 ?_
            refine ax_iload_n (i := 2) dX4_wakeAt_42 rfl rfl ?_
            refine ax_ialdN dX4_wakeAt_43 rfl rfl r2.2.2.2.2.2.1 (by decide) (by omega) ?_
            refine ax_aload_n (i := 1) dX4_wakeAt_44 rfl rfl rfl ?_
            refine ax_getI dX4_wakeAt_45 fl_X4_86 rfl rfl rfl ?_
            refine ax_invS (n := 2) (As := [_, _]) dX4_wakeAt_48 cb_J9_min_7cf53 cs_X4_89.1 cs_X4_89.2 rfl ⟨Nat.le_of_ble_eq_true rfl, Nat.le_of_ble_eq_true rfl⟩ (Nat.le_of_ble_eq_true rfl) rfl (t_imin (fun c_48 => ?_) (fun c_48 => ?_))
            · refine ax_iastN dX4_wakeAt_51 rfl rfl r2.2.2.2.2.2.1 (by decide) (by omega) ?_
              refine ax_sE (S' := mIter (sWakeH M k) (h + 1) S) ?_ ?_
              · show _ = sWakeH M k h (mIter (sWakeH M k) h S)
                rw [q3]
                exact (sWakeH_t ⟨(Classical.not_not.mp c_30).trans q2, by rw [← q3]; exact c_48⟩).symm
              refine ax_iinc (v := _ + 1) (lv' := [(2, _), (0, _), (1, _)]) dX4_wakeAt_52 rfl rfl (by decide) rfl ?_
              refine ax_goto (tgt := 2) dX4_wakeAt_55 (by decide) ?_
              rw [nI_1]
              exact ax_loc rfl (ih (h + 1) (by omega))
            · refine ax_iastN dX4_wakeAt_51 rfl rfl r2.2.2.2.2.2.1 (by decide) (by omega) ?_
              refine ax_sE (S' := mIter (sWakeH M k) (h + 1) S) ?_ ?_
              · show _ = sWakeH M k h (mIter (sWakeH M k) h S)
                rw [wI_self]
                exact (sWakeH_f (fun z => c_48 (by rw [q3]; exact z.2))).symm
              refine ax_iinc (v := _ + 1) (lv' := [(2, _), (0, _), (1, _)]) dX4_wakeAt_52 rfl rfl (by decide) rfl ?_
              refine ax_goto (tgt := 2) dX4_wakeAt_55 (by decide) ?_
              rw [nI_1]
              exact ax_loc rfl (ih (h + 1) (by omega))
  refine ax_iconst (v := nI 0) dX4_wakeAt_0 (by decide) ?_
  refine ax_istore_n (i := 2) (lv' := [(2, _), (0, _), (1, _)]) dX4_wakeAt_1 rfl (by decide) rfl ?_
  exact ax_loc rfl (L 8 0 (by omega))
set_option maxHeartbeats 4000000 in
set_option maxRecDepth 100000 in
theorem c_findSteps {E : awE} {S : awS} {Q : Option Value → awS → Nat → Nat → Prop} {M : aM} {t : Nat} (r : rosOk S M) (hw : sftOk S M) (hO : hndOk M) (ht : t ≤ 2000) (h : Q none (sFind M t S) 0 0) : awT true E m_X4_findSteps [.ref (nm 5 0), .int (nI t)] S Q := by
  refine awT.of (by decide) (by decide) (Nat.le_of_ble_eq_true rfl) ?_
  have e_b : mN M 53 ≤ 40 := hO.2.1
  have L : ∀ (m k : Nat), k + m = (mN M 53) → awX true E m_X4_findSteps 11 [(2, .int (nI k)), (0, .ref (nm 5 0)), (1, .int (nI t))] [] (mIter (sWakeK M t) k (sFillI 28 0 10 8 S)) 0 0 Q := by
    intro m
    induction m with
    | zero =>
      intro k hm1 
      have fr2 : cFr 26 0 S (mIter (sWakeK M t) k (sFillI 28 0 10 8 S)) := (frFill28 26 0 10 8 S).tr (cFr.it (p := fun S => S) (fun j a => frWakeK 26 0 M t j a) k _)
      have r2 := fr2.ros (by decide) r
      have q2 := fr2.sft (by decide) hw
      refine ax_iload_n (i := 2) dX4_findSteps_11 rfl rfl ?_
      refine ax_aload_n (i := 0) dX4_findSteps_12 rfl rfl rfl ?_
      refine ax_getR dX4_findSteps_13 fl_X4_18 rfl rfl rfl r2.1 ?_
      refine ax_invV (c := 0) (n := 0) (As := []) dX4_findSteps_16 cb_Jx4a65c_size_8abf5 cv_X4_32.1 cv_X4_32.2.1 cv_X4_32.2.2 rfl (by decide) rfl ⟨Nat.le_of_ble_eq_true rfl, Nat.le_of_ble_eq_true rfl⟩ (Nat.le_of_ble_eq_true rfl) rfl (t_lsSize (q := 7) (by decide) r2.2.2.2.2.2.2.1 r2.2.2.2.2.2.2.2.2.2.1 (by omega) ?_)
      refine ax_icmp_ge (tgt := 53) dX4_findSteps_19 (by decide) (fun c_19 => ?_) (fun c_19 => ?_)
      · have hk2 : k = (mN M 53) := Nat.le_antisymm (by omega) (ge_of_c (b := (mN M 53)) rfl c_19 (by omega))
        refine ax_vret dX4_findSteps_53 rfl ?_
        rw [hk2]
        exact h
      · exact absurd (lt_of_c (b := (mN M 53)) rfl c_19 (by omega)) (by omega)
    | succ m ih =>
      intro k hm1 
      have fr2 : cFr 26 0 S (mIter (sWakeK M t) k (sFillI 28 0 10 8 S)) := (frFill28 26 0 10 8 S).tr (cFr.it (p := fun S => S) (fun j a => frWakeK 26 0 M t j a) k _)
      have r2 := fr2.ros (by decide) r
      have q2 := fr2.sft (by decide) hw
      refine ax_iload_n (i := 2) dX4_findSteps_11 rfl rfl ?_
      refine ax_aload_n (i := 0) dX4_findSteps_12 rfl rfl rfl ?_
      refine ax_getR dX4_findSteps_13 fl_X4_18 rfl rfl rfl r2.1 ?_
      refine ax_invV (c := 0) (n := 0) (As := []) dX4_findSteps_16 cb_Jx4a65c_size_8abf5 cv_X4_32.1 cv_X4_32.2.1 cv_X4_32.2.2 rfl (by decide) rfl ⟨Nat.le_of_ble_eq_true rfl, Nat.le_of_ble_eq_true rfl⟩ (Nat.le_of_ble_eq_true rfl) rfl (t_lsSize (q := 7) (by decide) r2.2.2.2.2.2.2.1 r2.2.2.2.2.2.2.2.2.2.1 (by omega) ?_)
      refine ax_icmp_ge (tgt := 53) dX4_findSteps_19 (by decide) (fun c_19 => ?_) (fun c_19 => ?_)
      · exact absurd (ge_of_c (b := (mN M 53)) rfl c_19 (by omega)) (by omega)
      · have hk2 : k < (mN M 53) := lt_of_c (b := (mN M 53)) rfl c_19 (by omega)
        refine ax_aload_n (i := 0) dX4_findSteps_22 rfl rfl rfl ?_
        refine ax_getR dX4_findSteps_23 fl_X4_18 rfl rfl rfl r2.1 ?_
        refine ax_iload_n (i := 2) dX4_findSteps_26 rfl rfl ?_
        refine ax_invV (c := 0) (n := 1) (As := [_]) dX4_findSteps_27 cb_Jx4a65c_get_915e3 cv_X4_47.1 cv_X4_47.2.1 cv_X4_47.2.2 rfl (by decide) rfl ⟨Nat.le_of_ble_eq_true rfl, Nat.le_of_ble_eq_true rfl⟩ (Nat.le_of_ble_eq_true rfl) rfl (t_lsGet (q := 7) (by decide) r2.2.2.2.2.2.2.1 r2.2.2.2.2.2.2.2.2.2.1 (by omega) (by omega) ?_)
        refine ax_cast (c := 7) dX4_findSteps_30 kl_X4_76 rfl (by decide) ?_
        refine ax_astore_n (i := 3) (lv' := [(3, _), (2, _), (0, _), (1, _)]) dX4_findSteps_33 rfl (by decide) rfl rfl ?_
        refine ax_aload_n (i := 3) dX4_findSteps_34 rfl rfl rfl ?_
        refine ax_iload_n (i := 1) dX4_findSteps_35 rfl rfl ?_
        refine ax_invV (c := 7) (n := 1) (As := [_]) dX4_findSteps_36 cb_X6_covers cv_X4_78.1 cv_X4_78.2.1 cv_X4_78.2.2 rfl (by decide) rfl ⟨Nat.le_of_ble_eq_true rfl, Nat.le_of_ble_eq_true rfl⟩ (Nat.le_of_ble_eq_true rfl) rfl (c_shCov ht ⟨(q2 k hk2).2.2.1.trans (hO.2.2.2.1 k hk2).2.1.1, (hO.2.2.2.1 k hk2).2.1.2⟩ ⟨(q2 k hk2).2.2.2.trans (hO.2.2.2.1 k hk2).2.2.1, (hO.2.2.2.1 k hk2).2.2.2⟩ (fun c_36 => ?_) (fun c_36 => ?_))
        · refine ax_if_eq (tgt := 47) dX4_findSteps_39 (by decide) (fun z => absurd z (by decide)) (fun _ => ?_)
          refine ax_aload_n (i := 0) dX4_findSteps_42 rfl rfl rfl ?_
          refine ax_aload_n (i := 3) dX4_findSteps_43 rfl rfl rfl ?_
          refine ax_invV (c := 5) (n := 1) (As := [_]) dX4_findSteps_44 cb_X4_wakeAt cv_X4_79.1 cv_X4_79.2.1 cv_X4_79.2.2 rfl (by decide) rfl ⟨Nat.le_of_ble_eq_true rfl, Nat.le_of_ble_eq_true rfl⟩ (Nat.le_of_ble_eq_true rfl) rfl (c_wakeAt r2 ⟨(q2 k hk2).1, (q2 k hk2).2.1⟩ ?_)
          refine ax_sE (S' := mIter (sWakeK M t) (k + 1) (sFillI 28 0 10 8 S)) ?_ ?_
          · show _ = sWakeK M t k (mIter (sWakeK M t) k (sFillI 28 0 10 8 S))
            unfold sWakeK
            rw [if_pos c_36]
          refine ax_iinc (v := _ + 1) (lv' := [(2, _), (3, _), (0, _), (1, _)]) dX4_findSteps_47 rfl rfl (by decide) rfl ?_
          refine ax_goto (tgt := 11) dX4_findSteps_50 (by decide) ?_
          rw [nI_1]
          exact ax_loc rfl (ih (k + 1) (by omega))
        · refine ax_if_eq (tgt := 47) dX4_findSteps_39 (by decide) (fun _ => ?_) (fun z => absurd (by decide) z)
          refine ax_sE (S' := mIter (sWakeK M t) (k + 1) (sFillI 28 0 10 8 S)) ?_ ?_
          · show _ = sWakeK M t k (mIter (sWakeK M t) k (sFillI 28 0 10 8 S))
            unfold sWakeK
            rw [if_neg c_36]
          refine ax_iinc (v := _ + 1) (lv' := [(2, _), (3, _), (0, _), (1, _)]) dX4_findSteps_47 rfl rfl (by decide) rfl ?_
          refine ax_goto (tgt := 11) dX4_findSteps_50 (by decide) ?_
          rw [nI_1]
          exact ax_loc rfl (ih (k + 1) (by omega))
  refine ax_aload_n (i := 0) dX4_findSteps_0 rfl rfl rfl ?_
  refine ax_getR dX4_findSteps_1 fl_X4_29 rfl rfl rfl r.2.2.2.1 ?_
  refine ax_bipush (v := 10) dX4_findSteps_4 (by decide) ?_
  refine ax_invS (n := 2) (As := [_, _]) dX4_findSteps_6 cb_J7_fill_53178 cs_X4_70.1 cs_X4_70.2 rfl ⟨Nat.le_of_ble_eq_true rfl, Nat.le_of_ble_eq_true rfl⟩ (Nat.le_of_ble_eq_true rfl) rfl (c_fillint (m0 := 8) rfl rfl r.2.2.2.2.2.1 (by decide) ?_)
  refine ax_iconst (v := nI 0) dX4_findSteps_9 (by decide) ?_
  refine ax_istore_n (i := 2) (lv' := [(2, _), (0, _), (1, _)]) dX4_findSteps_10 rfl (by decide) rfl ?_
  exact ax_loc rfl (L (mN M 53) 0 (by omega))
