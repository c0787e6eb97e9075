def sRowI (f i st : Nat) (a : awS × Nat) : awS × Nat := mIter (sRowH f i st) 8 a
def sRowO (f i n : Nat) (a : awS × Nat) : awS × Nat := mIter (sRowI f i) n a
theorem sRow_e (f i : Nat) (S : awS) : sRow f i S = sRowO f i 10 (S, 0) := rfl
theorem mIter_s {α : Type} (f : Nat → α → α) (n : Nat) (a : α) : mIter f (n + 1) a = f n (mIter f n a) := rfl
theorem sRowO_s (f i n : Nat) (a : awS × Nat) : sRowO f i (n + 1) a = sRowI f i n (sRowO f i n a) := by
  unfold sRowO
  exact mIter_s _ _ _
theorem sRowO_0 (f i : Nat) (a : awS × Nat) : sRowO f i 0 a = a := rfl
theorem sRowI_e (f i st : Nat) (a : awS × Nat) : sRowI f i st a = mIter (sRowH f i st) 8 a := rfl
theorem rowLe1 (f i st h : Nat) (a : awS × Nat) (c : a.2 ≤ 8) : (sRowH f i st h a).2 ≤ 8 := by
  unfold sRowH
  by_cases d : sI a.1 28 0 h = nI st ∧ a.2 < 8
  · rw [if_pos d]; exact d.2
  · rw [if_neg d]; exact c
theorem rowLe (f i st : Nat) : ∀ (n : Nat) (a : awS × Nat), a.2 ≤ 8 → (mIter (sRowH f i st) n a).2 ≤ 8
  | 0, _, h => h
  | n + 1, a, h => by
    rw [mIter_s]
    exact rowLe1 _ _ _ _ _ (rowLe f i st n a h)
theorem frRowI (f i st : Nat) (a : awS × Nat) : cFr f i a.1 (sRowI f i st a).1 := cFr.it (p := fun a : awS × Nat => a.1) (fun h a => frRowH f i st h a) 8 a
theorem frRowO (f i n : Nat) (a : awS × Nat) : cFr f i a.1 (sRowO f i n a).1 := cFr.it (p := fun a : awS × Nat => a.1) (fun st a => frRowI f i st a) n a

set_option maxHeartbeats 400000 in
set_option maxRecDepth 100000 in
theorem fillRow_in26 {E : awE} {M : aM} {t i st : Nat} {Q : Option Value → awS → Nat → Nat → Prop} {a0 : awS × Nat} (r : rosOk a0.1 M) (hN : sN a0.1 26 i = 8) (h0 : a0.2 < 2 ^ 31) (KK : ∀ A : awS × Nat, mIter (sRowH 26 i st) 8 a0 = A → ∀ lv : List (Nat × Value), [(3, Value.int (nI A.2)), (4, .int (nI st)), (0, .ref (nm 5 0)), (1, .int (nI t)), (2, .ref (nm 26 i))].map (fun q => lk lv q.1) = [(3, Value.int (nI A.2)), (4, .int (nI st)), (0, .ref (nm 5 0)), (1, .int (nI t)), (2, .ref (nm 26 i))].map (fun q => some q.2) → awX true E m_X4_fillRow 67 lv [] A.1 0 0 Q) : awX true E m_X4_fillRow 25 [(5, .int (nI 0)), (3, .int (nI a0.2)), (4, .int (nI st)), (0, .ref (nm 5 0)), (1, .int (nI t)), (2, .ref (nm 26 i))] [] a0.1 0 0 Q := by
  have IN : ∀ (m h : Nat), h + m = 8 → ∀ A : awS × Nat, mIter (sRowH 26 i st) h a0 = A → A.2 < 2 ^ 31 → awX true E m_X4_fillRow 25 [(5, .int (nI h)), (3, .int (nI A.2)), (4, .int (nI st)), (0, .ref (nm 5 0)), (1, .int (nI t)), (2, .ref (nm 26 i))] [] A.1 0 0 Q := by
    intro m
    induction m with
    | zero =>
      intro h hm1 A hAe hA
      have fr2 : cFr 26 i a0.1 A.1 := by rw [← hAe]; exact cFr.it (p := fun a : awS × Nat => a.1) (fun j a => frRowH 26 i st j a) h a0
      have r2 := fr2.ros (by decide) r
      have hN2 : sN A.1 26 i = 8 := by unfold sN; rw [fr2.1]; exact hN
      refine ax_iload dX4_fillRow_25 rfl ?_
      refine ax_aload_n (i := 0) dX4_fillRow_27 rfl rfl rfl ?_
      refine ax_getR dX4_fillRow_28 fl_X4_29 rfl rfl rfl r2.2.2.2.1 ?_
      refine ax_alenN dX4_fillRow_31 (by decide) rfl r2.2.2.2.2.2.1 ?_
      refine ax_icmp_ge (tgt := 67) dX4_fillRow_32 (by decide) (fun c_32 => ?_) (fun c_32 => ?_)
      · have hh2 : h = 8 := Nat.le_antisymm (by omega) (ge_of_c (b := 8) rfl c_32 (by omega))
        exact KK A (by rw [hh2] at hAe; exact hAe) _ rfl
      · exact absurd (lt_of_c (b := 8) rfl c_32 (by omega)) (by omega)
    | succ m ih =>
      intro h hm1 A hAe hA
      have fr2 : cFr 26 i a0.1 A.1 := by rw [← hAe]; exact cFr.it (p := fun a : awS × Nat => a.1) (fun j a => frRowH 26 i st j a) h a0
      have r2 := fr2.ros (by decide) r
      have hN2 : sN A.1 26 i = 8 := by unfold sN; rw [fr2.1]; exact hN
      refine ax_iload dX4_fillRow_25 rfl ?_
      refine ax_aload_n (i := 0) dX4_fillRow_27 rfl rfl rfl ?_
      refine ax_getR dX4_fillRow_28 fl_X4_29 rfl rfl rfl r2.2.2.2.1 ?_
      refine ax_alenN dX4_fillRow_31 (by decide) rfl r2.2.2.2.2.2.1 ?_
      refine ax_icmp_ge (tgt := 67) dX4_fillRow_32 (by decide) (fun c_32 => ?_) (fun c_32 => ?_)
      · exact absurd (ge_of_c (b := 8) rfl c_32 (by omega)) (by omega)
      · have hh2 : h < 8 := lt_of_c (b := 8) rfl c_32 (by omega)
        refine ax_aload_n (i := 0) dX4_fillRow_35 rfl rfl rfl ?_
        refine ax_getR dX4_fillRow_36 fl_X4_29 rfl rfl rfl r2.2.2.2.1 ?_
        refine ax_iload dX4_fillRow_39 rfl ?_
        refine ax_ialdN dX4_fillRow_41 rfl rfl r2.2.2.2.2.2.1 (by decide) (by omega) ?_
        refine ax_iload dX4_fillRow_42 rfl ?_
        refine ax_icmp_ne (tgt := 61) dX4_fillRow_44 (by decide) (fun c_44 => ?_) (fun c_44 => ?_)
        · have e2 : sRowH 26 i st h A = A := if_neg (fun z => c_44 z.1)
          refine ax_iinc (v := _ + 1) (lv' := [(5, _), (3, _), (4, _), (0, _), (1, _), (2, _)]) dX4_fillRow_61 rfl rfl (by decide) rfl ?_
          refine ax_goto (tgt := 25) dX4_fillRow_64 (by decide) ?_
          rw [nI_1]
          exact ax_loc rfl (ih (h + 1) (by omega) A ((congrArg (sRowH 26 i st h) hAe).trans e2) hA)
        · refine ax_iload_n (i := 3) dX4_fillRow_47 rfl rfl ?_
          refine ax_aload_n (i := 2) dX4_fillRow_48 rfl rfl rfl ?_
          refine ax_alenN dX4_fillRow_49 (by decide) rfl hN2 ?_
          refine ax_icmp_ge (tgt := 61) dX4_fillRow_50 (by decide) (fun c_50 => ?_) (fun c_50 => ?_)
          · have e2 : sRowH 26 i st h A = A := if_neg (fun z => absurd z.2 (Nat.not_lt.mpr (ge_of_c (b := 8) rfl c_50 (by decide))))
            refine ax_iinc (v := _ + 1) (lv' := [(5, _), (3, _), (4, _), (0, _), (1, _), (2, _)]) dX4_fillRow_61 rfl rfl (by decide) rfl ?_
            refine ax_goto (tgt := 25) dX4_fillRow_64 (by decide) ?_
            rw [nI_1]
            exact ax_loc rfl (ih (h + 1) (by omega) A ((congrArg (sRowH 26 i st h) hAe).trans e2) hA)
          · refine ax_aload_n (i := 2) dX4_fillRow_53 rfl rfl rfl ?_
            refine ax_iload_n (i := 3) dX4_fillRow_54 rfl rfl ?_
            refine ax_iload dX4_fillRow_55 rfl ?_
            refine ax_iastN dX4_fillRow_57 rfl rfl hN2 (by decide) (lt_of_c (b := 8) rfl c_50 hA) ?_
            refine ax_iinc (v := _ + 1) (lv' := [(3, _), (5, _), (4, _), (0, _), (1, _), (2, _)]) dX4_fillRow_58 rfl rfl (by decide) rfl ?_
            have e2 : sRowH 26 i st h A = (wI A.1 26 i A.2 (nI h), A.2 + 1) := if_pos ⟨(Classical.not_not.mp c_44), lt_of_c (b := 8) rfl c_50 hA⟩
            refine ax_iinc (v := _ + 1) (lv' := [(5, _), (3, _), (4, _), (0, _), (1, _), (2, _)]) dX4_fillRow_61 rfl rfl (by decide) rfl ?_
            refine ax_goto (tgt := 25) dX4_fillRow_64 (by decide) ?_
            rw [nI_1, nI_1]
            exact ax_loc rfl (ih (h + 1) (by omega) (wI A.1 26 i A.2 (nI h), A.2 + 1) ((congrArg (sRowH 26 i st h) hAe).trans e2) (by have := lt_of_c (b := 8) rfl c_50 hA; show A.2 + 1 < 2 ^ 31; omega))
  exact IN 8 0 (by omega) a0 rfl h0

set_option maxHeartbeats 400000 in
set_option maxRecDepth 100000 in
theorem c_fillRow26 {E : awE} {S : awS} {M : aM} {t i : Nat} {Q : Option Value → awS → Nat → Nat → Prop} (r : rosOk S M) (hw : swpOk S M) (hs : sftOk S M) (hO : hndOk M) (ht : t ≤ 2000) (hN : sN S 26 i = 8) (h : Q (some (.int (nI (sRow 26 i (sFind M t (sStand M t S))).2))) (sRow 26 i (sFind M t (sStand M t S))).1 0 0) : awT true E m_X4_fillRow [.ref (nm 5 0), .int (nI t), .ref (nm 26 i)] S Q := by
  refine awT.of (by decide) (by decide) (Nat.le_of_ble_eq_true rfl) ?_
  have f1 := frStand 26 i M t S
  have f2 := f1.tr (frFind 26 i M t (sStand M t S))
  rw [sRow_e] at h
  have hX1 : cFr 26 i S (sFind M t (sStand M t S), 0).1 := f2
  have hX2 : (sFind M t (sStand M t S), 0).2 = 0 := rfl
  have L : ∀ X : awS × Nat, cFr 26 i S X.1 → Q (some (.int (nI (sRowO 26 i 10 X).2))) (sRowO 26 i 10 X).1 0 0 → ∀ (m st : Nat), st + m = 10 → ∀ A : awS × Nat, sRowO 26 i st X = A → A.2 ≤ 8 → awX true E m_X4_fillRow 15 [(4, .int (nI st)), (3, .int (nI A.2)), (0, .ref (nm 5 0)), (1, .int (nI t)), (2, .ref (nm 26 i))] [] A.1 0 0 Q := by
    intro X hX1 h m
    induction m with
    | zero =>
      intro st hm1 A hAe hA
      refine ax_iload dX4_fillRow_15 rfl ?_
      refine ax_bipush (v := nI 9) dX4_fillRow_17 (by decide) ?_
      refine ax_icmp_gt (tgt := 73) dX4_fillRow_19 (by decide) (fun c1 => ?_) (fun c1 => absurd (nI_lt (a := 9) (b := st) (by omega) (by omega)) c1)
      refine ax_iload_n (i := 3) dX4_fillRow_73 rfl rfl ?_
      refine ax_iret dX4_fillRow_74 rfl rfl ?_
      have e0 : st = 10 := by omega
      rw [e0] at hAe
      rw [← hAe]
      exact h
    | succ m ih =>
      intro st hm1 A hAe hA
      have fr3 : cFr 26 i S A.1 := by rw [← hAe]; exact hX1.tr (frRowO 26 i st X)
      refine ax_iload dX4_fillRow_15 rfl ?_
      refine ax_bipush (v := nI 9) dX4_fillRow_17 (by decide) ?_
      refine ax_icmp_gt (tgt := 73) dX4_fillRow_19 (by decide) (fun c1 => absurd c1 (Int32.not_lt.mpr (nI_le (by omega) (by decide)))) (fun c1 => ?_)
      refine ax_iconst (v := nI 0) dX4_fillRow_22 (by decide) ?_
      refine ax_istore (lv' := [(5, _), (4, _), (3, _), (0, _), (1, _), (2, _)]) dX4_fillRow_23 (by decide) rfl ?_
      refine ax_loc rfl (fillRow_in26 (M := M) (a0 := A) (fr3.ros (by decide) r) (by unfold sN; rw [fr3.1]; exact hN) (by omega) (fun A2 hA2 lv hlv => ?_))
      refine ax_loc hlv ?_
      refine ax_iinc (v := _ + 1) (lv' := [(4, _), (3, _), (0, _), (1, _), (2, _)]) dX4_fillRow_67 rfl rfl (by decide) rfl ?_
      refine ax_goto (tgt := 15) dX4_fillRow_70 (by decide) ?_
      rw [nI_1]
      exact ax_loc rfl (ih (st + 1) (by omega) A2 ((sRowO_s 26 i st X).trans ((congrArg (sRowI 26 i st) hAe).trans ((sRowI_e 26 i st A).trans hA2))) (by rw [← hA2]; exact rowLe 26 i st 8 A hA))
  refine ax_aload_n (i := 0) dX4_fillRow_0 rfl rfl rfl ?_
  refine ax_iload_n (i := 1) dX4_fillRow_1 rfl rfl ?_
  refine ax_invV (c := 5) (n := 1) (As := [_]) dX4_fillRow_2 cb_X4_stand cv_X4_40.1 cv_X4_40.2.1 cv_X4_40.2.2 rfl (by decide) rfl ⟨Nat.le_of_ble_eq_true rfl, Nat.le_of_ble_eq_true rfl⟩ (Nat.le_of_ble_eq_true rfl) rfl (c_stand r hw hO ?_)
  refine ax_aload_n (i := 0) dX4_fillRow_5 rfl rfl rfl ?_
  refine ax_iload_n (i := 1) dX4_fillRow_6 rfl rfl ?_
  refine ax_invV (c := 5) (n := 1) (As := [_]) dX4_fillRow_7 cb_X4_findSteps cv_X4_44.1 cv_X4_44.2.1 cv_X4_44.2.2 rfl (by decide) rfl ⟨Nat.le_of_ble_eq_true rfl, Nat.le_of_ble_eq_true rfl⟩ (Nat.le_of_ble_eq_true rfl) rfl (c_findSteps (f1.ros (by decide) r) (f1.sft (by decide) hs) hO ht ?_)
  refine ax_iconst (v := nI 0) dX4_fillRow_10 (by decide) ?_
  refine ax_istore_n (i := 3) (lv' := [(3, _), (0, _), (1, _), (2, _)]) dX4_fillRow_11 rfl (by decide) rfl ?_
  refine ax_iconst (v := nI 0) dX4_fillRow_12 (by decide) ?_
  refine ax_istore (lv' := [(4, _), (3, _), (0, _), (1, _), (2, _)]) dX4_fillRow_13 (by decide) rfl ?_
  exact ax_loc rfl (L _ hX1 h 10 0 (by omega) (sFind M t (sStand M t S), 0) (sRowO_0 _ _ _) (Nat.zero_le 8))

set_option maxHeartbeats 400000 in
set_option maxRecDepth 100000 in
theorem fillRow_in23 {E : awE} {M : aM} {t i st : Nat} {Q : Option Value → awS → Nat → Nat → Prop} {a0 : awS × Nat} (r : rosOk a0.1 M) (hN : sN a0.1 23 i = 8) (h0 : a0.2 < 2 ^ 31) (KK : ∀ A : awS × Nat, mIter (sRowH 23 i st) 8 a0 = A → ∀ lv : List (Nat × Value), [(3, Value.int (nI A.2)), (4, .int (nI st)), (0, .ref (nm 5 0)), (1, .int (nI t)), (2, .ref (nm 23 i))].map (fun q => lk lv q.1) = [(3, Value.int (nI A.2)), (4, .int (nI st)), (0, .ref (nm 5 0)), (1, .int (nI t)), (2, .ref (nm 23 i))].map (fun q => some q.2) → awX true E m_X4_fillRow 67 lv [] A.1 0 0 Q) : awX true E m_X4_fillRow 25 [(5, .int (nI 0)), (3, .int (nI a0.2)), (4, .int (nI st)), (0, .ref (nm 5 0)), (1, .int (nI t)), (2, .ref (nm 23 i))] [] a0.1 0 0 Q := by
  have IN : ∀ (m h : Nat), h + m = 8 → ∀ A : awS × Nat, mIter (sRowH 23 i st) h a0 = A → A.2 < 2 ^ 31 → awX true E m_X4_fillRow 25 [(5, .int (nI h)), (3, .int (nI A.2)), (4, .int (nI st)), (0, .ref (nm 5 0)), (1, .int (nI t)), (2, .ref (nm 23 i))] [] A.1 0 0 Q := by
    intro m
    induction m with
    | zero =>
      intro h hm1 A hAe hA
      have fr2 : cFr 23 i a0.1 A.1 := by rw [← hAe]; exact cFr.it (p := fun a : awS × Nat => a.1) (fun j a => frRowH 23 i st j a) h a0
      have r2 := fr2.ros (by decide) r
      have hN2 : sN A.1 23 i = 8 := by unfold sN; rw [fr2.1]; exact hN
      refine ax_iload dX4_fillRow_25 rfl ?_
      refine ax_aload_n (i := 0) dX4_fillRow_27 rfl rfl rfl ?_
      refine ax_getR dX4_fillRow_28 fl_X4_29 rfl rfl rfl r2.2.2.2.1 ?_
      refine ax_alenN dX4_fillRow_31 (by decide) rfl r2.2.2.2.2.2.1 ?_
      refine ax_icmp_ge (tgt := 67) dX4_fillRow_32 (by decide) (fun c_32 => ?_) (fun c_32 => ?_)
      · have hh2 : h = 8 := Nat.le_antisymm (by omega) (ge_of_c (b := 8) rfl c_32 (by omega))
        exact KK A (by rw [hh2] at hAe; exact hAe) _ rfl
      · exact absurd (lt_of_c (b := 8) rfl c_32 (by omega)) (by omega)
    | succ m ih =>
      intro h hm1 A hAe hA
      have fr2 : cFr 23 i a0.1 A.1 := by rw [← hAe]; exact cFr.it (p := fun a : awS × Nat => a.1) (fun j a => frRowH 23 i st j a) h a0
      have r2 := fr2.ros (by decide) r
      have hN2 : sN A.1 23 i = 8 := by unfold sN; rw [fr2.1]; exact hN
      refine ax_iload dX4_fillRow_25 rfl ?_
      refine ax_aload_n (i := 0) dX4_fillRow_27 rfl rfl rfl ?_
      refine ax_getR dX4_fillRow_28 fl_X4_29 rfl rfl rfl r2.2.2.2.1 ?_
      refine ax_alenN dX4_fillRow_31 (by decide) rfl r2.2.2.2.2.2.1 ?_
      refine ax_icmp_ge (tgt := 67) dX4_fillRow_32 (by decide) (fun c_32 => ?_) (fun c_32 => ?_)
      · exact absurd (ge_of_c (b := 8) rfl c_32 (by omega)) (by omega)
      · have hh2 : h < 8 := lt_of_c (b := 8) rfl c_32 (by omega)
        refine ax_aload_n (i := 0) dX4_fillRow_35 rfl rfl rfl ?_
        refine ax_getR dX4_fillRow_36 fl_X4_29 rfl rfl rfl r2.2.2.2.1 ?_
        refine ax_iload dX4_fillRow_39 rfl ?_
        refine ax_ialdN dX4_fillRow_41 rfl rfl r2.2.2.2.2.2.1 (by decide) (by omega) ?_
        refine ax_iload dX4_fillRow_42 rfl ?_
        refine ax_icmp_ne (tgt := 61) dX4_fillRow_44 (by decide) (fun c_44 => ?_) (fun c_44 => ?_)
        · have e2 : sRowH 23 i st h A = A := if_neg (fun z => c_44 z.1)
          refine ax_iinc (v := _ + 1) (lv' := [(5, _), (3, _), (4, _), (0, _), (1, _), (2, _)]) dX4_fillRow_61 rfl rfl (by decide) rfl ?_
          refine ax_goto (tgt := 25) dX4_fillRow_64 (by decide) ?_
          rw [nI_1]
          exact ax_loc rfl (ih (h + 1) (by omega) A ((congrArg (sRowH 23 i st h) hAe).trans e2) hA)
        · refine ax_iload_n (i := 3) dX4_fillRow_47 rfl rfl ?_
          refine ax_aload_n (i := 2) dX4_fillRow_48 rfl rfl rfl ?_
          refine ax_alenN dX4_fillRow_49 (by decide) rfl hN2 ?_
          refine ax_icmp_ge (tgt := 61) dX4_fillRow_50 (by decide) (fun c_50 => ?_) (fun c_50 => ?_)
          · have e2 : sRowH 23 i st h A = A := if_neg (fun z => absurd z.2 (Nat.not_lt.mpr (ge_of_c (b := 8) rfl c_50 (by decide))))
            refine ax_iinc (v := _ + 1) (lv' := [(5, _), (3, _), (4, _), (0, _), (1, _), (2, _)]) dX4_fillRow_61 rfl rfl (by decide) rfl ?_
            refine ax_goto (tgt := 25) dX4_fillRow_64 (by decide) ?_
            rw [nI_1]
            exact ax_loc rfl (ih (h + 1) (by omega) A ((congrArg (sRowH 23 i st h) hAe).trans e2) hA)
          · refine ax_aload_n (i := 2) dX4_fillRow_53 rfl rfl rfl ?_
            refine ax_iload_n (i := 3) dX4_fillRow_54 rfl rfl ?_
            refine ax_iload dX4_fillRow_55 rfl ?_
            refine ax_iastN dX4_fillRow_57 rfl rfl hN2 (by decide) (lt_of_c (b := 8) rfl c_50 hA) ?_
            refine ax_iinc (v := _ + 1) (lv' := [(3, _), (5, _), (4, _), (0, _), (1, _), (2, _)]) dX4_fillRow_58 rfl rfl (by decide) rfl ?_
            have e2 : sRowH 23 i st h A = (wI A.1 23 i A.2 (nI h), A.2 + 1) := if_pos ⟨(Classical.not_not.mp c_44), lt_of_c (b := 8) rfl c_50 hA⟩
            refine ax_iinc (v := _ + 1) (lv' := [(5, _), (3, _), (4, _), (0, _), (1, _), (2, _)]) dX4_fillRow_61 rfl rfl (by decide) rfl ?_
            refine ax_goto (tgt := 25) dX4_fillRow_64 (by decide) ?_
            rw [nI_1, nI_1]
            exact ax_loc rfl (ih (h + 1) (by omega) (wI A.1 23 i A.2 (nI h), A.2 + 1) ((congrArg (sRowH 23 i st h) hAe).trans e2) (by have := lt_of_c (b := 8) rfl c_50 hA; show A.2 + 1 < 2 ^ 31; omega))
  exact IN 8 0 (by omega) a0 rfl h0

set_option maxHeartbeats 400000 in
set_option maxRecDepth 100000 in
theorem c_fillRow23 {E : awE} {S : awS} {M : aM} {t i : Nat} {Q : Option Value → awS → Nat → Nat → Prop} (r : rosOk S M) (hw : swpOk S M) (hs : sftOk S M) (hO : hndOk M) (ht : t ≤ 2000) (hN : sN S 23 i = 8) (h : Q (some (.int (nI (sRow 23 i (sFind M t (sStand M t S))).2))) (sRow 23 i (sFind M t (sStand M t S))).1 0 0) : awT true E m_X4_fillRow [.ref (nm 5 0), .int (nI t), .ref (nm 23 i)] S Q := by
  refine awT.of (by decide) (by decide) (Nat.le_of_ble_eq_true rfl) ?_
  have f1 := frStand 23 i M t S
  have f2 := f1.tr (frFind 23 i M t (sStand M t S))
  rw [sRow_e] at h
  have hX1 : cFr 23 i S (sFind M t (sStand M t S), 0).1 := f2
  have hX2 : (sFind M t (sStand M t S), 0).2 = 0 := rfl
  have L : ∀ X : awS × Nat, cFr 23 i S X.1 → Q (some (.int (nI (sRowO 23 i 10 X).2))) (sRowO 23 i 10 X).1 0 0 → ∀ (m st : Nat), st + m = 10 → ∀ A : awS × Nat, sRowO 23 i st X = A → A.2 ≤ 8 → awX true E m_X4_fillRow 15 [(4, .int (nI st)), (3, .int (nI A.2)), (0, .ref (nm 5 0)), (1, .int (nI t)), (2, .ref (nm 23 i))] [] A.1 0 0 Q := by
    intro X hX1 h m
    induction m with
    | zero =>
      intro st hm1 A hAe hA
      refine ax_iload dX4_fillRow_15 rfl ?_
      refine ax_bipush (v := nI 9) dX4_fillRow_17 (by decide) ?_
      refine ax_icmp_gt (tgt := 73) dX4_fillRow_19 (by decide) (fun c1 => ?_) (fun c1 => absurd (nI_lt (a := 9) (b := st) (by omega) (by omega)) c1)
      refine ax_iload_n (i := 3) dX4_fillRow_73 rfl rfl ?_
      refine ax_iret dX4_fillRow_74 rfl rfl ?_
      have e0 : st = 10 := by omega
      rw [e0] at hAe
      rw [← hAe]
      exact h
    | succ m ih =>
      intro st hm1 A hAe hA
      have fr3 : cFr 23 i S A.1 := by rw [← hAe]; exact hX1.tr (frRowO 23 i st X)
      refine ax_iload dX4_fillRow_15 rfl ?_
      refine ax_bipush (v := nI 9) dX4_fillRow_17 (by decide) ?_
      refine ax_icmp_gt (tgt := 73) dX4_fillRow_19 (by decide) (fun c1 => absurd c1 (Int32.not_lt.mpr (nI_le (by omega) (by decide)))) (fun c1 => ?_)
      refine ax_iconst (v := nI 0) dX4_fillRow_22 (by decide) ?_
      refine ax_istore (lv' := [(5, _), (4, _), (3, _), (0, _), (1, _), (2, _)]) dX4_fillRow_23 (by decide) rfl ?_
      refine ax_loc rfl (fillRow_in23 (M := M) (a0 := A) (fr3.ros (by decide) r) (by unfold sN; rw [fr3.1]; exact hN) (by omega) (fun A2 hA2 lv hlv => ?_))
      refine ax_loc hlv ?_
      refine ax_iinc (v := _ + 1) (lv' := [(4, _), (3, _), (0, _), (1, _), (2, _)]) dX4_fillRow_67 rfl rfl (by decide) rfl ?_
      refine ax_goto (tgt := 15) dX4_fillRow_70 (by decide) ?_
      rw [nI_1]
      exact ax_loc rfl (ih (st + 1) (by omega) A2 ((sRowO_s 23 i st X).trans ((congrArg (sRowI 23 i st) hAe).trans ((sRowI_e 23 i st A).trans hA2))) (by rw [← hA2]; exact rowLe 23 i st 8 A hA))
  refine ax_aload_n (i := 0) dX4_fillRow_0 rfl rfl rfl ?_
  refine ax_iload_n (i := 1) dX4_fillRow_1 rfl rfl ?_
  refine ax_invV (c := 5) (n := 1) (As := [_]) dX4_fillRow_2 cb_X4_stand cv_X4_40.1 cv_X4_40.2.1 cv_X4_40.2.2 rfl (by decide) rfl ⟨Nat.le_of_ble_eq_true rfl, Nat.le_of_ble_eq_true rfl⟩ (Nat.le_of_ble_eq_true rfl) rfl (c_stand r hw hO ?_)
  refine ax_aload_n (i := 0) dX4_fillRow_5 rfl rfl rfl ?_
  refine ax_iload_n (i := 1) dX4_fillRow_6 rfl rfl ?_
  refine ax_invV (c := 5) (n := 1) (As := [_]) dX4_fillRow_7 cb_X4_findSteps cv_X4_44.1 cv_X4_44.2.1 cv_X4_44.2.2 rfl (by decide) rfl ⟨Nat.le_of_ble_eq_true rfl, Nat.le_of_ble_eq_true rfl⟩ (Nat.le_of_ble_eq_true rfl) rfl (c_findSteps (f1.ros (by decide) r) (f1.sft (by decide) hs) hO ht ?_)
  refine ax_iconst (v := nI 0) dX4_fillRow_10 (by decide) ?_
  refine ax_istore_n (i := 3) (lv' := [(3, _), (0, _), (1, _), (2, _)]) dX4_fillRow_11 rfl (by decide) rfl ?_
  refine ax_iconst (v := nI 0) dX4_fillRow_12 (by decide) ?_
  refine ax_istore (lv' := [(4, _), (3, _), (0, _), (1, _), (2, _)]) dX4_fillRow_13 (by decide) rfl ?_
  exact ax_loc rfl (L _ hX1 h 10 0 (by omega) (sFind M t (sStand M t S), 0) (sRowO_0 _ _ _) (Nat.zero_le 8))

