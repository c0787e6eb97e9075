set_option maxHeartbeats 400000 in
theorem hBit_iff {x : Int32} {h : Nat} (hh : h < 32) : (x >>> (nI h &&& 31)) &&& 1 = 1 ↔ hBit x h := by
  have sl : ∀ n, n < 32 → ((nI n &&& 31).toBitVec.smod 32).toNat = n := by decide +kernel
  have e0 : ((x >>> (nI h &&& 31)) &&& 1).toBitVec = (x.toBitVec.sshiftRight h) &&& 1#32 := by
    rw [Int32.toBitVec_and, Int32.toBitVec_shiftRight]
    show (x.toBitVec.sshiftRight ((nI h &&& 31).toBitVec.smod 32).toNat) &&& 1#32 = _
    rw [sl h hh]
  have e1 : (x.toBitVec.sshiftRight h).getLsbD 0 = x.toBitVec.getLsbD h := by
    rw [BitVec.getLsbD_sshiftRight]
    simp [hh]
  rw [← Int32.toBitVec_inj, e0]
  unfold hBit
  rw [← e1]
  generalize x.toBitVec.sshiftRight h = y
  constructor
  · intro z
    have q := congrArg (fun b => b.getLsbD 0) z
    have t1 : (1#32).getLsbD 0 = true := by decide
    have t2 : (Int32.toBitVec 1).getLsbD 0 = true := by decide
    simp only [BitVec.getLsbD_and, t1, t2, Bool.and_true] at q
    exact q
  · intro z
    apply BitVec.eq_of_getLsbD_eq
    intro i hi
    show _ = (1#32).getLsbD i
    rw [BitVec.getLsbD_and]
    rcases Nat.eq_zero_or_pos i with e | e
    · subst e
      rw [z, Bool.true_and]
    · have t3 : (1#32).getLsbD i = false := by
        rw [BitVec.getLsbD_one]
        simp
        omega
      rw [t3, Bool.and_false]

set_option maxHeartbeats 400000 in
set_option maxRecDepth 100000 in
theorem c_isHeldBy {E : awE} {S : awS} {Q : Option Value → awS → Nat → Nat → Prop} {r h q : Nat} (hr : rulOk S r) (hh : h < 32) (hq : q < 3) (h1 : hBit (sI S 19 r q) h → Q (some (.int 1)) S 0 0) (h0 : ¬ hBit (sI S 19 r q) h → Q (some (.int 0)) S 0 0) : awT true E m_X5_isHeldBy [.ref (nm 6 r), .int (nI h), .int (nI q)] S Q := by
  refine awT.of (by decide) (by decide) (Nat.le_of_ble_eq_true rfl) ?_
  refine ax_iload_n (i := 2) dX5_isHeldBy_0 rfl rfl ?_
  refine ax_if_lt (tgt := 31) dX5_isHeldBy_1 (by decide) (fun c_1 => ?_) (fun c_1 => ?_)
  · exact absurd c_1 (Int32.not_lt.mpr (nI_nn (by omega)))
  · refine ax_iload_n (i := 2) dX5_isHeldBy_4 rfl rfl ?_
    refine ax_aload_n (i := 0) dX5_isHeldBy_5 rfl rfl rfl ?_
    refine ax_getR dX5_isHeldBy_6 fl_X5_17 rfl rfl rfl hr.2.1 ?_
    refine ax_alenN dX5_isHeldBy_9 (by decide) rfl hr.2.2.2.2.2.1 ?_
    refine ax_icmp_ge (tgt := 31) dX5_isHeldBy_10 (by decide) (fun c_10 => ?_) (fun c_10 => ?_)
    · exact absurd c_10 (Int32.not_le.mpr (nI_lt (by omega) (by decide)))
    · refine ax_aload_n (i := 0) dX5_isHeldBy_13 rfl rfl rfl ?_
      refine ax_getR dX5_isHeldBy_14 fl_X5_17 rfl rfl rfl hr.2.1 ?_
      refine ax_iload_n (i := 2) dX5_isHeldBy_17 rfl rfl ?_
      refine ax_ialdN dX5_isHeldBy_18 rfl rfl hr.2.2.2.2.2.1 (by decide) (by omega) ?_
      refine ax_iload_n (i := 1) dX5_isHeldBy_19 rfl rfl ?_
      refine ax_ishr dX5_isHeldBy_20 ?_
      refine ax_iconst (v := 1) dX5_isHeldBy_21 (by decide) ?_
      refine ax_iand dX5_isHeldBy_22 ?_
      refine ax_iconst (v := 1) dX5_isHeldBy_23 (by decide) ?_
      refine ax_icmp_ne (tgt := 31) dX5_isHeldBy_24 (by decide) (fun c_24 => ?_) (fun c_24 => ?_)
      · refine ax_iconst (v := 0) dX5_isHeldBy_31 (by decide) ?_
        refine ax_iret dX5_isHeldBy_32 rfl rfl ?_
        exact h0 (fun z => c_24 ((hBit_iff hh).mpr z))
      · refine ax_iconst (v := 1) dX5_isHeldBy_27 (by decide) ?_
        refine ax_goto (tgt := 32) dX5_isHeldBy_28 (by decide) ?_
        refine ax_iret dX5_isHeldBy_32 rfl rfl ?_
        exact h1 ((hBit_iff hh).mp (Classical.not_not.mp c_24))
set_option maxHeartbeats 1000000 in
set_option maxRecDepth 100000 in
theorem isHeld_in {E : awE} {S : awS} {M : aM} {τ : Nat → Nat → Nat} {Q : Option Value → awS → Nat → Nat → Prop} (R : cR τ S M) {a h : Nat} (ha : a < mN M 30) (hh : h < mN M 6) (h1 : hdE M a → Q (some (.int 1)) S 0 0) (KK : (∀ i, i < 3 → ¬ (mHoldE M (mE M 31 a) h i ∧ lsE M h (mE M 32 a) i)) → awX true E m_X11_isHeld 63 [(3, .int (nI 3)), (2, .int (nI h)), (0, .ref (nm 12 0)), (1, .ref (nm 1 a))] [] S 0 0 Q) : awX true E m_X11_isHeld 15 [(3, .int (nI 0)), (2, .int (nI h)), (0, .ref (nm 12 0)), (1, .ref (nm 1 a))] [] S 0 0 Q := by
  have e_b := R.nR
  have href := R.ref.1 _ ha
  have L : ∀ (m q : Nat), q + m = 3 → (∀ i, i < q → ¬ (mHoldE M (mE M 31 a) h i ∧ lsE M h (mE M 32 a) i)) → awX true E m_X11_isHeld 15 [(3, .int (nI q)), (2, .int (nI h)), (0, .ref (nm 12 0)), (1, .ref (nm 1 a))] [] S 0 0 Q := by
    intro m
    induction m with
    | zero =>
      intro q hm1 hno
      refine ax_iload_n (i := 3) dX11_isHeld_15 rfl rfl ?_
      refine ax_iconst (v := 3) dX11_isHeld_16 (by decide) ?_
      refine ax_icmp_ge (tgt := 63) dX11_isHeld_17 (by decide) (fun c_17 => ?_) (fun c_17 => ?_)
      · have hq2 : q = 3 := Nat.le_antisymm (by omega) (ge_of_c (b := 3) rfl c_17 (by omega))
        rw [hq2]
        exact ax_loc rfl (KK (fun j hj => hno j (by omega)))
      · exact absurd (lt_of_c (b := 3) rfl c_17 (by omega)) (by omega)
    | succ m ih =>
      intro q hm1 hno
      refine ax_iload_n (i := 3) dX11_isHeld_15 rfl rfl ?_
      refine ax_iconst (v := 3) dX11_isHeld_16 (by decide) ?_
      refine ax_icmp_ge (tgt := 63) dX11_isHeld_17 (by decide) (fun c_17 => ?_) (fun c_17 => ?_)
      · exact absurd (ge_of_c (b := 3) rfl c_17 (by omega)) (by omega)
      · have hq2 : q < 3 := lt_of_c (b := 3) rfl c_17 (by omega)
        refine ax_aload_n (i := 1) dX11_isHeld_20 rfl rfl rfl ?_
        refine ax_getR dX11_isHeld_21 fl_X11_289 rfl rfl rfl href.1 ?_
        refine ax_iload_n (i := 2) dX11_isHeld_24 rfl rfl ?_
        refine ax_iload_n (i := 3) dX11_isHeld_25 rfl rfl ?_
        refine ax_invV (c := 6) (n := 2) (As := [_, _]) dX11_isHeld_26 cb_X5_isHeldBy cv_X11_293.1 cv_X11_293.2.1 cv_X11_293.2.2 rfl (by decide) rfl ⟨Nat.le_of_ble_eq_true rfl, Nat.le_of_ble_eq_true rfl⟩ (Nat.le_of_ble_eq_true rfl) rfl (c_isHeldBy (R.rul _ (R.aRu ha)) (by omega) hq2 (fun c_26 => ?_) (fun c_26 => ?_))
        · refine ax_if_eq (tgt := 57) dX11_isHeld_29 (by decide) (fun z => absurd z (by decide)) (fun _ => ?_)
          refine ax_aload_n (i := 0) dX11_isHeld_32 rfl rfl rfl ?_
          refine ax_aload_n (i := 0) dX11_isHeld_33 rfl rfl rfl ?_
          refine ax_getR dX11_isHeld_34 fl_X11_16 rfl rfl rfl (R.tow.1 1 (by decide)) ?_
          refine ax_iload_n (i := 2) dX11_isHeld_37 rfl rfl ?_
          refine ax_invV (c := 0) (n := 1) (As := [_]) dX11_isHeld_38 cb_Jx4a65c_get_915e3 cv_X11_115.1 cv_X11_115.2.1 cv_X11_115.2.2 rfl (by decide) rfl ⟨Nat.le_of_ble_eq_true rfl, Nat.le_of_ble_eq_true rfl⟩ (Nat.le_of_ble_eq_true rfl) rfl (t_lsGet (q := 1) (by decide) (R.lq (by decide)) (R.lst.2.1) (Nat.lt_of_le_of_lt (mS_b R.mI (k := 6) (b := 16) (by decide)) (by decide)) (by omega) ?_)
          refine ax_cast (c := 6) dX11_isHeld_41 kl_X11_96 rfl (by decide) ?_
          refine ax_aload_n (i := 1) dX11_isHeld_44 rfl rfl rfl ?_
          refine ax_getR dX11_isHeld_45 fl_X11_296 rfl rfl rfl href.2.1 ?_
          refine ax_iload_n (i := 3) dX11_isHeld_48 rfl rfl ?_
          refine ax_invV (c := 12) (n := 3) (As := [_, _, _]) dX11_isHeld_49 cb_X11_lastsLike cv_X11_300.1 cv_X11_300.2.1 cv_X11_300.2.2 rfl (by decide) rfl ⟨Nat.le_of_ble_eq_true rfl, Nat.le_of_ble_eq_true rfl⟩ (Nat.le_of_ble_eq_true rfl) rfl (c_lastsLike R hh (R.aSo ha) hq2 (fun c_49 => ?_) (fun c_49 => ?_))
          · refine ax_if_eq (tgt := 57) dX11_isHeld_52 (by decide) (fun z => absurd z (by decide)) (fun _ => ?_)
            refine ax_iconst (v := 1) dX11_isHeld_55 (by decide) ?_
            refine ax_iret dX11_isHeld_56 rfl rfl ?_
            exact h1 ⟨h, hh, q, hq2, (R.hld _ q (R.aRu ha) hq2 h (by omega)).mp c_26, c_49⟩
          · refine ax_if_eq (tgt := 57) dX11_isHeld_52 (by decide) (fun _ => ?_) (fun z => absurd (by decide) z)
            refine ax_iinc (v := _ + 1) (lv' := [(3, _), (2, _), (0, _), (1, _)]) dX11_isHeld_57 rfl rfl (by decide) rfl ?_
            refine ax_goto (tgt := 15) dX11_isHeld_60 (by decide) ?_
            rw [nI_1]
            exact ax_loc rfl (ih (q + 1) (by omega) (lt_succ_c hno (fun z => c_49 z.2)))
        · refine ax_if_eq (tgt := 57) dX11_isHeld_29 (by decide) (fun _ => ?_) (fun z => absurd (by decide) z)
          refine ax_iinc (v := _ + 1) (lv' := [(3, _), (2, _), (0, _), (1, _)]) dX11_isHeld_57 rfl rfl (by decide) rfl ?_
          refine ax_goto (tgt := 15) dX11_isHeld_60 (by decide) ?_
          rw [nI_1]
          exact ax_loc rfl (ih (q + 1) (by omega) (lt_succ_c hno (fun z => c_26 ((R.hld _ q (R.aRu ha) hq2 h (by omega)).mpr z.1))))
  exact ax_loc rfl (L 3 0 (by omega) (fun j hj => absurd hj (Nat.not_lt_zero j)))

set_option maxHeartbeats 400000 in
set_option maxRecDepth 100000 in
theorem c_isHeld {E : awE} {S : awS} {M : aM} {τ : Nat → Nat → Nat} {Q : Option Value → awS → Nat → Nat → Prop} (R : cR τ S M) {a : Nat} (ha : a < mN M 30) (h1 : hdE M a → Q (some (.int 1)) S 0 0) (h0 : ¬ hdE M a → Q (some (.int 0)) S 0 0) : awT true E m_X11_isHeld [.ref (nm 12 0), .ref (nm 1 a)] S Q := by
  refine awT.of (by decide) (by decide) (Nat.le_of_ble_eq_true rfl) ?_
  have e_b := R.nR
  have L : ∀ (m h : Nat), h + m = (mN M 6) → (∀ j, j < h → ¬ ∃ q, q < 3 ∧ (mHoldE M (mE M 31 a) j q ∧ lsE M j (mE M 32 a) q)) → awX true E m_X11_isHeld 2 [(2, .int (nI h)), (0, .ref (nm 12 0)), (1, .ref (nm 1 a))] [] S 0 0 Q := by
    intro m
    induction m with
    | zero =>
      intro h hm1 hno
      refine ax_iload_n (i := 2) dX11_isHeld_2 rfl rfl ?_
      refine ax_aload_n (i := 0) dX11_isHeld_3 rfl rfl rfl ?_
      refine ax_getR dX11_isHeld_4 fl_X11_16 rfl rfl rfl (R.tow.1 1 (by decide)) ?_
      refine ax_invV (c := 0) (n := 0) (As := []) dX11_isHeld_7 cb_Jx4a65c_size_8abf5 cv_X11_75.1 cv_X11_75.2.1 cv_X11_75.2.2 rfl (by decide) rfl ⟨Nat.le_of_ble_eq_true rfl, Nat.le_of_ble_eq_true rfl⟩ (Nat.le_of_ble_eq_true rfl) rfl (t_lsSize (q := 1) (by decide) (R.lq (by decide)) (R.lst.2.1) (Nat.lt_of_le_of_lt (mS_b R.mI (k := 6) (b := 16) (by decide)) (by decide)) ?_)
      refine ax_icmp_ge (tgt := 69) dX11_isHeld_10 (by decide) (fun c_10 => ?_) (fun c_10 => ?_)
      · have hh2 : h = (mN M 6) := Nat.le_antisymm (by omega) (ge_of_c (b := (mN M 6)) rfl c_10 (by omega))
        refine ax_iconst (v := 0) dX11_isHeld_69 (by decide) ?_
        refine ax_iret dX11_isHeld_70 rfl rfl ?_
        exact h0 (fun z => z.elim (fun j w => hno j (by omega) w.2))
      · exact absurd (lt_of_c (b := (mN M 6)) rfl c_10 (by omega)) (by omega)
    | succ m ih =>
      intro h hm1 hno
      refine ax_iload_n (i := 2) dX11_isHeld_2 rfl rfl ?_
      refine ax_aload_n (i := 0) dX11_isHeld_3 rfl rfl rfl ?_
      refine ax_getR dX11_isHeld_4 fl_X11_16 rfl rfl rfl (R.tow.1 1 (by decide)) ?_
      refine ax_invV (c := 0) (n := 0) (As := []) dX11_isHeld_7 cb_Jx4a65c_size_8abf5 cv_X11_75.1 cv_X11_75.2.1 cv_X11_75.2.2 rfl (by decide) rfl ⟨Nat.le_of_ble_eq_true rfl, Nat.le_of_ble_eq_true rfl⟩ (Nat.le_of_ble_eq_true rfl) rfl (t_lsSize (q := 1) (by decide) (R.lq (by decide)) (R.lst.2.1) (Nat.lt_of_le_of_lt (mS_b R.mI (k := 6) (b := 16) (by decide)) (by decide)) ?_)
      refine ax_icmp_ge (tgt := 69) dX11_isHeld_10 (by decide) (fun c_10 => ?_) (fun c_10 => ?_)
      · exact absurd (ge_of_c (b := (mN M 6)) rfl c_10 (by omega)) (by omega)
      · have hh2 : h < (mN M 6) := lt_of_c (b := (mN M 6)) rfl c_10 (by omega)
        refine ax_iconst (v := nI 0) dX11_isHeld_13 (by decide) ?_
        refine ax_istore_n (i := 3) (lv' := [(3, _), (2, _), (0, _), (1, _)]) dX11_isHeld_14 rfl (by decide) rfl ?_
        refine ax_loc rfl (isHeld_in R ha hh2 h1 (fun hnq => ?_))
        refine ax_iinc (v := _ + 1) (lv' := [(2, _), (3, _), (0, _), (1, _)]) dX11_isHeld_63 rfl rfl (by decide) rfl ?_
        refine ax_goto (tgt := 2) dX11_isHeld_66 (by decide) ?_
        rw [nI_1]
        exact ax_loc rfl (ih (h + 1) (by omega) (lt_succ_c hno (fun z => z.elim (fun i w => hnq i w.1 w.2))))
  refine ax_iconst (v := nI 0) dX11_isHeld_0 (by decide) ?_
  refine ax_istore_n (i := 2) (lv' := [(2, _), (0, _), (1, _)]) dX11_isHeld_1 rfl (by decide) rfl ?_
  exact ax_loc rfl (L (mN M 6) 0 (by omega) (fun j hj => absurd hj (Nat.not_lt_zero j)))
