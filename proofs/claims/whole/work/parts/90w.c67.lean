set_option maxHeartbeats 400000 in
set_option maxRecDepth 100000 in
theorem c_iLet {E : awE} {S : awS} {Q : Option Value → awS → Nat → Nat → Prop} {l g : Nat} {why t : Int32} (h : Q none (wI (wI (wI (wR (wR (wNew (wI (wI (wI (wI (wI (wR (wNew S 23 8) 4 l 3 (some (nm 23 (sC S 23)))) 4 l 4 0) 4 l 6 0) 4 l 7 (-2)) 4 l 8 0) 4 l 9 0) 24 40) 4 l 10 (some (nm 24 (sC S 24)))) 4 l 0 (some (nm 3 g))) 4 l 1 why) 4 l 2 t) 4 l 5 t) 2 48) : awT true E m_X3_init [.ref (nm 4 l), .ref (nm 3 g), .int why, .int t] S Q := by
  refine awT.of (by decide) (by decide) (Nat.le_of_ble_eq_true rfl) ?_
  refine ax_aload_n (i := 0) dX3_init_0 rfl rfl rfl ?_
  refine ax_objInit dX3_init_1 ki_X3_3 ko_1 ko_2 ⟨Nat.le_of_ble_eq_true rfl, Nat.le_of_ble_eq_true rfl⟩ (Nat.le_of_ble_eq_true rfl) ?_
  refine ax_aload_n (i := 0) dX3_init_4 rfl rfl rfl ?_
  refine ax_bipush (v := 8) dX3_init_5 (by decide) ?_
  refine ax_newI (f := 23) (n := 8) dX3_init_7 ka_int rfl rfl (by decide) (by decide) (by decide) ?_
  refine ax_putR dX3_init_9 fl_X3_9 rfl rfl rfl (Or.inr ⟨rfl, rfl, rfl⟩) ?_
  refine ax_aload_n (i := 0) dX3_init_12 rfl rfl rfl ?_
  refine ax_iconst (v := 0) dX3_init_13 (by decide) ?_
  refine ax_putI dX3_init_14 fl_X3_15 rfl rfl rfl (Or.inl rfl) rfl rfl ?_
  refine ax_aload_n (i := 0) dX3_init_17 rfl rfl rfl ?_
  refine ax_iconst (v := 0) dX3_init_18 (by decide) ?_
  refine ax_putI dX3_init_19 fl_X3_19 rfl rfl rfl (Or.inl rfl) rfl rfl ?_
  refine ax_aload_n (i := 0) dX3_init_22 rfl rfl rfl ?_
  refine ax_bipush (v := -2) dX3_init_23 (by decide) ?_
  refine ax_putI dX3_init_25 fl_X3_22 rfl rfl rfl (Or.inl rfl) rfl rfl ?_
  refine ax_aload_n (i := 0) dX3_init_28 rfl rfl rfl ?_
  refine ax_iconst (v := 0) dX3_init_29 (by decide) ?_
  refine ax_putI dX3_init_30 fl_X3_25 rfl rfl rfl (Or.inl rfl) rfl rfl ?_
  refine ax_aload_n (i := 0) dX3_init_33 rfl rfl rfl ?_
  refine ax_iconst (v := 0) dX3_init_34 (by decide) ?_
  refine ax_putI dX3_init_35 fl_X3_28 rfl rfl rfl (Or.inl rfl) rfl rfl ?_
  refine ax_aload_n (i := 0) dX3_init_38 rfl rfl rfl ?_
  refine ax_bipush (v := 40) dX3_init_39 (by decide) ?_
  refine ax_newI (f := 24) (n := 40) dX3_init_41 ka_int rfl rfl (by decide) (by decide) (by decide) ?_
  refine ax_putR dX3_init_43 fl_X3_31 rfl rfl rfl (Or.inr ⟨rfl, rfl, rfl⟩) ?_
  refine ax_aload_n (i := 0) dX3_init_46 rfl rfl rfl ?_
  refine ax_aload_n (i := 1) dX3_init_47 rfl rfl rfl ?_
  refine ax_putR dX3_init_48 fl_X3_34 rfl rfl rfl (Or.inr ⟨rfl, rfl, rfl⟩) ?_
  refine ax_aload_n (i := 0) dX3_init_51 rfl rfl rfl ?_
  refine ax_iload_n (i := 2) dX3_init_52 rfl rfl ?_
  refine ax_putI dX3_init_53 fl_X3_38 rfl rfl rfl (Or.inr ⟨rfl, rfl, rfl⟩) rfl rfl ?_
  refine ax_aload_n (i := 0) dX3_init_56 rfl rfl rfl ?_
  refine ax_iload_n (i := 3) dX3_init_57 rfl rfl ?_
  refine ax_putI dX3_init_58 fl_X3_41 rfl rfl rfl (Or.inr ⟨rfl, rfl, rfl⟩) rfl rfl ?_
  refine ax_aload_n (i := 0) dX3_init_61 rfl rfl rfl ?_
  refine ax_iload_n (i := 3) dX3_init_62 rfl rfl ?_
  refine ax_putI dX3_init_63 fl_X3_44 rfl rfl rfl (Or.inl rfl) rfl rfl ?_
  refine ax_vret dX3_init_66 rfl ?_
  exact h
def iL (S : awS) (l g : Nat) (why t : Int32) : awS := (wI (wI (wI (wR (wR (wNew (wI (wI (wI (wI (wI (wR (wNew (wNew S 4 0) 23 8) 4 l 3 (some (nm 23 (sC (wNew S 4 0) 23)))) 4 l 4 0) 4 l 6 0) 4 l 7 (-2)) 4 l 8 0) 4 l 9 0) 24 40) 4 l 10 (some (nm 24 (sC (wNew S 4 0) 24)))) 4 l 0 (some (nm 3 g))) 4 l 1 why) 4 l 2 t) 4 l 5 t)
abbrev ltF (S : awS) (l g : Nat) (why t : Int32) (m : Nat) : Prop := letOk S l ∧ sR S 4 l 0 = some (nm 3 g) ∧ sI S 4 l 1 = why ∧ sI S 4 l 2 = t ∧ sI S 4 l 5 = t ∧ sI S 4 l 6 = nI m ∧ sI S 4 l 7 = -2 ∧ sI S 4 l 8 = 0 ∧ sI S 4 l 9 = 0 ∧ sC S 4 = l + 1 ∧ sC S 23 = l + 1 ∧ sC S 24 = l + 1
theorem iL_F {S : awS} {l g : Nat} {why t : Int32} (h4 : sC S 4 = l) (h23 : sC S 23 = l) (h24 : sC S 24 = l) : ltF (iL S l g why t) l g why t 0 := by
  have e4 : sC (wNew S 4 0) 23 = l := h23
  have e5 : sC (wNew S 4 0) 24 = l := h24
  unfold iL ltF letOk
  rw [e4, e5]
  simp [sI_wI, sI_wR, sI_wN, sR_wI, sR_wR, sR_wN, sN_wI, sN_wR, sN_wN, sC_wI, sC_wR, sC_wN, h4, h23, h24]
  rfl
theorem iL_lt {S : awS} {l g : Nat} {why t : Int32} (h4 : sC S 4 = l) (h23 : sC S 23 = l) (h24 : sC S 24 = l) : ltE l S (iL S l g why t) := by
  unfold iL
  refine ltE.tr ?_ (ltE.wI ⟨Or.inl rfl, Nat.le_refl _⟩)
  refine ltE.tr ?_ (ltE.wI ⟨Or.inl rfl, Nat.le_refl _⟩)
  refine ltE.tr ?_ (ltE.wI ⟨Or.inl rfl, Nat.le_refl _⟩)
  refine ltE.tr ?_ (ltE.wR ⟨Or.inl rfl, Nat.le_refl _⟩)
  refine ltE.tr ?_ (ltE.wR ⟨Or.inl rfl, Nat.le_refl _⟩)
  refine ltE.tr ?_ (ltE.wN (Or.inr (Or.inr rfl)) (show sC (wNew S 4 0) 24 = l from h24))
  refine ltE.tr ?_ (ltE.wI ⟨Or.inl rfl, Nat.le_refl _⟩)
  refine ltE.tr ?_ (ltE.wI ⟨Or.inl rfl, Nat.le_refl _⟩)
  refine ltE.tr ?_ (ltE.wI ⟨Or.inl rfl, Nat.le_refl _⟩)
  refine ltE.tr ?_ (ltE.wI ⟨Or.inl rfl, Nat.le_refl _⟩)
  refine ltE.tr ?_ (ltE.wI ⟨Or.inl rfl, Nat.le_refl _⟩)
  refine ltE.tr ?_ (ltE.wR ⟨Or.inl rfl, Nat.le_refl _⟩)
  refine ltE.tr ?_ (ltE.wN (Or.inr (Or.inl rfl)) (show sC (wNew S 4 0) 23 = l from h23))
  exact ltE.wN (Or.inl rfl) h4
theorem cFm.lt {l : Nat} {S S1 : awS} (h : ltE l S S1) : cFm S S1 := fun f hf => by
  unfold fmOk at hf
  have e : ∀ i, ¬ ((f = 4 ∨ f = 23 ∨ f = 24) ∧ l ≤ i) := fun i z => by omega
  exact ⟨fun i k => (h.1 f i k (e i)).1, fun i k => (h.1 f i k (e i)).2.1, fun i k => (h.1 f i k (e i)).2.2, fun i => h.2.1 f i (e i), h.2.2.1 f (by omega)⟩
theorem vS_0 {S : awS} {l : Nat} : ltE l (vS S l) S := ⟨fun _ _ _ _ => ⟨rfl, rfl, rfl⟩, fun _ _ _ => rfl, fun f q => (if_neg q).symm, fun _ => rfl⟩

set_option maxHeartbeats 400000 in
set_option maxRecDepth 100000 in
theorem c_addL {E : awE} {S : awS} {Q : Option Value → awS → Nat → Nat → Prop} {l x m : Nat} (hL : letOk S l) (hF : sI S 4 l 6 = nI m) (hm : m ≤ 40) (h1 : m < 40 → Q (some (.int 1)) (wI (wI S 24 l m (sI S 1 x 0)) 4 l 6 (nI (m + 1))) 0 0) (h0 : m = 40 → Q (some (.int 0)) S 0 0) : awT true E m_X3_add [.ref (nm 4 l), .ref (nm 1 x)] S Q := by
  refine awT.of (by decide) (by decide) (Nat.le_of_ble_eq_true rfl) ?_
  refine ax_aload_n (i := 0) dX3_add_0 rfl rfl rfl ?_
  refine ax_getI dX3_add_1 fl_X3_19 rfl rfl rfl ?_
  refine ax_top hF ?_
  refine ax_aload_n (i := 0) dX3_add_4 rfl rfl rfl ?_
  refine ax_getR dX3_add_5 fl_X3_31 rfl rfl rfl hL.2.1 ?_
  refine ax_alenN dX3_add_8 (by decide) rfl hL.2.2.2 ?_
  refine ax_icmp_lt (tgt := 14) dX3_add_9 (by decide) (fun c_9 => ?_) (fun c_9 => ?_)
  · refine ax_aload_n (i := 0) dX3_add_14 rfl rfl rfl ?_
    refine ax_getR dX3_add_15 fl_X3_31 rfl rfl rfl hL.2.1 ?_
    refine ax_aload_n (i := 0) dX3_add_18 rfl rfl rfl ?_
    refine ax_getI dX3_add_19 fl_X3_19 rfl rfl rfl ?_
    refine ax_top hF ?_
    refine ax_aload_n (i := 1) dX3_add_22 rfl rfl rfl ?_
    refine ax_getI dX3_add_23 fl_X3_47 rfl rfl rfl ?_
    refine ax_iastN dX3_add_26 rfl rfl hL.2.2.2 (by decide) (nI_slt (b := 40) c_9 (by omega)) ?_
    refine ax_aload_n (i := 0) dX3_add_27 rfl rfl rfl ?_
    refine ax_dup dX3_add_28 rfl ?_
    refine ax_getI dX3_add_29 fl_X3_19 rfl rfl rfl ?_
    refine ax_top hF ?_
    refine ax_iconst (v := 1) dX3_add_32 (by decide) ?_
    refine ax_iadd1 dX3_add_33 ?_
    refine ax_putI dX3_add_34 fl_X3_19 rfl rfl rfl (Or.inl rfl) rfl rfl ?_
    refine ax_iconst (v := 1) dX3_add_37 (by decide) ?_
    refine ax_iret dX3_add_38 rfl rfl ?_
    exact h1 (nI_slt (b := 40) c_9 (by omega))
  · refine ax_iconst (v := 0) dX3_add_12 (by decide) ?_
    refine ax_iret dX3_add_13 rfl rfl ?_
    exact h0 (Nat.le_antisymm hm (Nat.le_of_not_lt (fun z => absurd (nI_lt (b := 40) z (by decide)) c_9)))
set_option maxHeartbeats 1000000 in
theorem cR.tL {τ : Nat → Nat → Nat} {S : awS} {M : aM} (R : cR τ S M) {x : Nat} (he : mA M 34 x = 0) : cR τ (wI (wI (wI S 1 x 9 (sI S 1 x 9 + 1)) 1 x 10 1) 1 x 11 1) (pA (pA (pA M 38 x (mA M 38 x + 1)) 39 x 0) 40 x 1) := by
  refine cR.mk' (((R.mI.qF (by decide)).qF (by decide)).qF (by decide)) R.tow R.lst R.cx R.cnt.2.1 R.cnt.2.2 R.src R.rul (?_) R.ltr R.brd (⟨fun i hi => by
    have q := R.int (f := 1) (k := 4) (m := 33) (q := 30) (by decide) hi
    simp [sI_wI, mA_pA]
    exact q, fun i hi => by
    have q := R.int (f := 1) (k := 5) (m := 34) (q := 30) (by decide) hi
    simp [sI_wI, mA_pA]
    exact q, fun i hi => by
    have q := R.int (f := 1) (k := 9) (m := 38) (q := 30) (by decide) hi
    simp [sI_wI, mA_pA]
    by_cases e : i = x
    · simp [e]; first | done | (rw [e] at q; rw [q])
    · simp [e]; exact q, fun i hi => by
    have q := R.int (f := 1) (k := 11) (m := 40) (q := 30) (by decide) hi
    simp [sI_wI, mA_pA]
    by_cases e : i = x
    · simp [e]; first | done | (rw [e] at q; rw [q])
    · simp [e]; exact q, fun i hi => by
    have q := R.int (f := 1) (k := 12) (m := 41) (q := 30) (by decide) hi
    simp [sI_wI, mA_pA]
    exact q, R.ix.2.2.2.2.2.1, R.ix.2.2.2.2.2.2.1, R.ix.2.2.2.2.2.2.2.1, R.ix.2.2.2.2.2.2.2.2.1, R.ix.2.2.2.2.2.2.2.2.2.1, R.ix.2.2.2.2.2.2.2.2.2.2.1, R.ix.2.2.2.2.2.2.2.2.2.2.2.1, R.ix.2.2.2.2.2.2.2.2.2.2.2.2.1, R.ix.2.2.2.2.2.2.2.2.2.2.2.2.2.1, R.ix.2.2.2.2.2.2.2.2.2.2.2.2.2.2.1, R.ix.2.2.2.2.2.2.2.2.2.2.2.2.2.2.2.1, R.ix.2.2.2.2.2.2.2.2.2.2.2.2.2.2.2.2.1, R.ix.2.2.2.2.2.2.2.2.2.2.2.2.2.2.2.2.2.1, R.ix.2.2.2.2.2.2.2.2.2.2.2.2.2.2.2.2.2.2.1, R.ix.2.2.2.2.2.2.2.2.2.2.2.2.2.2.2.2.2.2.2.1, R.ix.2.2.2.2.2.2.2.2.2.2.2.2.2.2.2.2.2.2.2.2.1, R.ix.2.2.2.2.2.2.2.2.2.2.2.2.2.2.2.2.2.2.2.2.2.1, R.ix.2.2.2.2.2.2.2.2.2.2.2.2.2.2.2.2.2.2.2.2.2.2.1, R.ix.2.2.2.2.2.2.2.2.2.2.2.2.2.2.2.2.2.2.2.2.2.2.2.1, R.ix.2.2.2.2.2.2.2.2.2.2.2.2.2.2.2.2.2.2.2.2.2.2.2.2.1, R.ix.2.2.2.2.2.2.2.2.2.2.2.2.2.2.2.2.2.2.2.2.2.2.2.2.2.1, R.ix.2.2.2.2.2.2.2.2.2.2.2.2.2.2.2.2.2.2.2.2.2.2.2.2.2.2.1, R.ix.2.2.2.2.2.2.2.2.2.2.2.2.2.2.2.2.2.2.2.2.2.2.2.2.2.2.2.1, R.ix.2.2.2.2.2.2.2.2.2.2.2.2.2.2.2.2.2.2.2.2.2.2.2.2.2.2.2.2.1, R.ix.2.2.2.2.2.2.2.2.2.2.2.2.2.2.2.2.2.2.2.2.2.2.2.2.2.2.2.2.2.1, R.ix.2.2.2.2.2.2.2.2.2.2.2.2.2.2.2.2.2.2.2.2.2.2.2.2.2.2.2.2.2.2.1, R.ix.2.2.2.2.2.2.2.2.2.2.2.2.2.2.2.2.2.2.2.2.2.2.2.2.2.2.2.2.2.2.2.1, R.ix.2.2.2.2.2.2.2.2.2.2.2.2.2.2.2.2.2.2.2.2.2.2.2.2.2.2.2.2.2.2.2.2.1, R.ix.2.2.2.2.2.2.2.2.2.2.2.2.2.2.2.2.2.2.2.2.2.2.2.2.2.2.2.2.2.2.2.2.2.1, R.ix.2.2.2.2.2.2.2.2.2.2.2.2.2.2.2.2.2.2.2.2.2.2.2.2.2.2.2.2.2.2.2.2.2.2.1, R.ix.2.2.2.2.2.2.2.2.2.2.2.2.2.2.2.2.2.2.2.2.2.2.2.2.2.2.2.2.2.2.2.2.2.2.2.1, R.ix.2.2.2.2.2.2.2.2.2.2.2.2.2.2.2.2.2.2.2.2.2.2.2.2.2.2.2.2.2.2.2.2.2.2.2.2.1, R.ix.2.2.2.2.2.2.2.2.2.2.2.2.2.2.2.2.2.2.2.2.2.2.2.2.2.2.2.2.2.2.2.2.2.2.2.2.2.1, R.ix.2.2.2.2.2.2.2.2.2.2.2.2.2.2.2.2.2.2.2.2.2.2.2.2.2.2.2.2.2.2.2.2.2.2.2.2.2.2⟩) R.la R.sca R.val R.ref R.wat (?_) R.tru R.hld R.lea R.row R.bdr R.inv
  · intro i hi
    have q := R.ala i hi
    simp [sI_wI]
    exact q
  · intro i hi
    have q := R.flg i hi
    by_cases e : i = x
    · subst e
      refine ⟨fun _ => ?_, fun z => absurd he z⟩
      obtain ⟨q1, q2, q3, q4⟩ := q.1 he
      simp [sI_wI, mA_pA]
      exact ⟨q1, q2, q3⟩
    · simpa [sI_wI, mA_pA, e] using q
set_option maxHeartbeats 1000000 in
theorem cR.tE {τ : Nat → Nat → Nat} {S : awS} {M : aM} (R : cR τ S M) {x : Nat} (he : ¬ mA M 34 x = 0) : cR τ (wI (wI S 1 x 9 (sI S 1 x 9 + 1)) 1 x 12 1) (pA (pA (pA M 38 x (mA M 38 x + 1)) 39 x 0) 41 x 1) := by
  refine cR.mk' (((R.mI.qF (by decide)).qF (by decide)).qF (by decide)) R.tow R.lst R.cx R.cnt.2.1 R.cnt.2.2 R.src R.rul (?_) R.ltr R.brd (⟨fun i hi => by
    have q := R.int (f := 1) (k := 4) (m := 33) (q := 30) (by decide) hi
    simp [sI_wI, mA_pA]
    exact q, fun i hi => by
    have q := R.int (f := 1) (k := 5) (m := 34) (q := 30) (by decide) hi
    simp [sI_wI, mA_pA]
    exact q, fun i hi => by
    have q := R.int (f := 1) (k := 9) (m := 38) (q := 30) (by decide) hi
    simp [sI_wI, mA_pA]
    by_cases e : i = x
    · simp [e]; first | done | (rw [e] at q; rw [q])
    · simp [e]; exact q, fun i hi => by
    have q := R.int (f := 1) (k := 11) (m := 40) (q := 30) (by decide) hi
    simp [sI_wI, mA_pA]
    exact q, fun i hi => by
    have q := R.int (f := 1) (k := 12) (m := 41) (q := 30) (by decide) hi
    simp [sI_wI, mA_pA]
    by_cases e : i = x
    · simp [e]; first | done | (rw [e] at q; rw [q])
    · simp [e]; exact q, R.ix.2.2.2.2.2.1, R.ix.2.2.2.2.2.2.1, R.ix.2.2.2.2.2.2.2.1, R.ix.2.2.2.2.2.2.2.2.1, R.ix.2.2.2.2.2.2.2.2.2.1, R.ix.2.2.2.2.2.2.2.2.2.2.1, R.ix.2.2.2.2.2.2.2.2.2.2.2.1, R.ix.2.2.2.2.2.2.2.2.2.2.2.2.1, R.ix.2.2.2.2.2.2.2.2.2.2.2.2.2.1, R.ix.2.2.2.2.2.2.2.2.2.2.2.2.2.2.1, R.ix.2.2.2.2.2.2.2.2.2.2.2.2.2.2.2.1, R.ix.2.2.2.2.2.2.2.2.2.2.2.2.2.2.2.2.1, R.ix.2.2.2.2.2.2.2.2.2.2.2.2.2.2.2.2.2.1, R.ix.2.2.2.2.2.2.2.2.2.2.2.2.2.2.2.2.2.2.1, R.ix.2.2.2.2.2.2.2.2.2.2.2.2.2.2.2.2.2.2.2.1, R.ix.2.2.2.2.2.2.2.2.2.2.2.2.2.2.2.2.2.2.2.2.1, R.ix.2.2.2.2.2.2.2.2.2.2.2.2.2.2.2.2.2.2.2.2.2.1, R.ix.2.2.2.2.2.2.2.2.2.2.2.2.2.2.2.2.2.2.2.2.2.2.1, R.ix.2.2.2.2.2.2.2.2.2.2.2.2.2.2.2.2.2.2.2.2.2.2.2.1, R.ix.2.2.2.2.2.2.2.2.2.2.2.2.2.2.2.2.2.2.2.2.2.2.2.2.1, R.ix.2.2.2.2.2.2.2.2.2.2.2.2.2.2.2.2.2.2.2.2.2.2.2.2.2.1, R.ix.2.2.2.2.2.2.2.2.2.2.2.2.2.2.2.2.2.2.2.2.2.2.2.2.2.2.1, R.ix.2.2.2.2.2.2.2.2.2.2.2.2.2.2.2.2.2.2.2.2.2.2.2.2.2.2.2.1, R.ix.2.2.2.2.2.2.2.2.2.2.2.2.2.2.2.2.2.2.2.2.2.2.2.2.2.2.2.2.1, R.ix.2.2.2.2.2.2.2.2.2.2.2.2.2.2.2.2.2.2.2.2.2.2.2.2.2.2.2.2.2.1, R.ix.2.2.2.2.2.2.2.2.2.2.2.2.2.2.2.2.2.2.2.2.2.2.2.2.2.2.2.2.2.2.1, R.ix.2.2.2.2.2.2.2.2.2.2.2.2.2.2.2.2.2.2.2.2.2.2.2.2.2.2.2.2.2.2.2.1, R.ix.2.2.2.2.2.2.2.2.2.2.2.2.2.2.2.2.2.2.2.2.2.2.2.2.2.2.2.2.2.2.2.2.1, R.ix.2.2.2.2.2.2.2.2.2.2.2.2.2.2.2.2.2.2.2.2.2.2.2.2.2.2.2.2.2.2.2.2.2.1, R.ix.2.2.2.2.2.2.2.2.2.2.2.2.2.2.2.2.2.2.2.2.2.2.2.2.2.2.2.2.2.2.2.2.2.2.1, R.ix.2.2.2.2.2.2.2.2.2.2.2.2.2.2.2.2.2.2.2.2.2.2.2.2.2.2.2.2.2.2.2.2.2.2.2.1, R.ix.2.2.2.2.2.2.2.2.2.2.2.2.2.2.2.2.2.2.2.2.2.2.2.2.2.2.2.2.2.2.2.2.2.2.2.2.1, R.ix.2.2.2.2.2.2.2.2.2.2.2.2.2.2.2.2.2.2.2.2.2.2.2.2.2.2.2.2.2.2.2.2.2.2.2.2.2.1, R.ix.2.2.2.2.2.2.2.2.2.2.2.2.2.2.2.2.2.2.2.2.2.2.2.2.2.2.2.2.2.2.2.2.2.2.2.2.2.2⟩) R.la R.sca R.val R.ref R.wat (?_) R.tru R.hld R.lea R.row R.bdr R.inv
  · intro i hi
    have q := R.ala i hi
    simp [sI_wI]
    exact q
  · intro i hi
    have q := R.flg i hi
    by_cases e : i = x
    · subst e
      refine ⟨fun z => absurd z he, fun _ => ?_⟩
      obtain ⟨q1, q2, q3⟩ := q.2 he
      simp [sI_wI]
      exact ⟨q1, q2, q3⟩
    · simpa [sI_wI, mA_pA, e] using q
theorem mWrite_40 {M : aM} {l x : Nat} (h : mA M 67 l = 40) : mWrite M l x = M := by
  unfold mWrite
  rw [if_pos h]
theorem mWrite_m {M : aM} {l x m : Nat} (h : mA M 67 l = nI m) (hm : m < 40) : mWrite M l x = if mA M 34 x = 0 then (pA (pA (pA (pA (pA M 68 (40 * l + m) (nI x)) 67 l (nI (m + 1))) 38 x (mA (pA (pA M 68 (40 * l + m) (nI x)) 67 l (nI (m + 1))) 38 x + 1)) 39 x 0) 40 x 1) else (pA (pA (pA (pA (pA M 68 (40 * l + m) (nI x)) 67 l (nI (m + 1))) 38 x (mA (pA (pA M 68 (40 * l + m) (nI x)) 67 l (nI (m + 1))) 38 x + 1)) 39 x 0) 41 x 1) := by
  have e : mE M 67 l = m := by unfold mE; rw [h]; exact nI_cl (by omega)
  unfold mWrite
  rw [if_neg (show ¬ mA M 67 l = 40 from fun z => absurd (h.symm.trans z) (fun w => absurd ((nI_eq (b := 40) (by omega) (by decide)).mp w) (by omega)))]
  simp only []
  rw [e, show mA (pA M 68 (40 * l + m) (nI x)) 67 l + 1 = nI (m + 1) from by rw [show mA (pA M 68 (40 * l + m) (nI x)) 67 l = mA M 67 l from rfl, h, nI_1]]
  rfl
def sdI (τ : Nat → Nat → Nat) (l g : Nat) (why t : Int32) (S0 S1 : awS) (N : aM) : Prop := cR τ (vS S1 l) (pS N 63 (nI l)) ∧ mI N ∧ cRest N ∧ (∃ m, m ≤ 40 ∧ ltF S1 l g why t m ∧ mA N 67 l = nI m ∧ ∀ j, j < m → sI S1 24 l j = mA N 68 (40 * l + j)) ∧ (∀ i j, 4 ≤ j → sI S1 3 i j = sI S0 3 i j) ∧ cFm S0 S1

set_option maxHeartbeats 1000000 in
theorem sd_L {τ : Nat → Nat → Nat} {l g x m : Nat} {why t : Int32} {S0 S1 : awS} {N : aM} (R : cR τ (vS S1 l) (pS N 63 (nI l))) (hI : mI N) (hr0 : cRest N) (hm : m < 40) (hF : ltF S1 l g why t m) (h67 : mA N 67 l = nI m) (hj : ∀ j, j < m → sI S1 24 l j = mA N 68 (40 * l + j)) (hg : ∀ i j, 4 ≤ j → sI S1 3 i j = sI S0 3 i j) (hf : cFm S0 S1) (hl : l < 200) (hx : x < mN N 30) (he : mA N 34 x = 0) : sdI τ l g why t S0 (wI (wI (wI (wI (wI S1 24 l m (sI S1 1 x 0)) 4 l 6 (nI (m + 1))) 1 x 9 (sI (wI (wI S1 24 l m (sI S1 1 x 0)) 4 l 6 (nI (m + 1))) 1 x 9 + 1)) 1 x 10 1) 1 x 11 1) (mWrite N l x) := by
  have hx3 : x < 300 := Nat.lt_of_lt_of_le hx (mS_b hI (k := 30) (b := 300) (by decide))
  have eN : mN (pS N 63 (nI l)) 63 = l := nI_cl (by omega)
  have hW : mWrite N l x = (pA (pA (pA (pA (pA N 68 (40 * l + m) (nI x)) 67 l (nI (m + 1))) 38 x (mA (pA (pA N 68 (40 * l + m) (nI x)) 67 l (nI (m + 1))) 38 x + 1)) 39 x 0) 40 x 1) := (mWrite_m h67 hm).trans (if_pos he)
  have hI2 : mI (mWrite N l x) := hI.write hl hx3
  have hIp : mI (pA (pA N 68 (40 * l + m) (nI x)) 67 l (nI (m + 1))) := (hI.qR (b := 300) (by decide) hx3 (by decide)).qR (b := 41) (by decide) (by omega) (by decide)
  have R1 := R.lt eN (S1 := (wI (wI S1 24 l m (sI S1 1 x 0)) 4 l 6 (nI (m + 1)))) ((vS_0.tr (ltE.wI ⟨Or.inr (Or.inr rfl), Nat.le_refl _⟩)).tr (ltE.wI ⟨Or.inl rfl, Nat.le_refl _⟩))
  have R2 := R1.lm eN (N := pS (pA (pA N 68 (40 * l + m) (nI x)) 67 l (nI (m + 1))) 63 (nI l)) (ltM.tr (ltM.w (M := pS N 63 (nI l)) ⟨⟨by decide, by decide⟩, by show 40 * l ≤ 40 * l + m; omega⟩) (ltM.w ⟨⟨by decide, by decide⟩, by show l ≤ l; exact Nat.le_refl l⟩)) (hIp.qSR (b := 200) (by decide) (by omega) (by decide))
  have R3 := R2.tL (x := x) he
  have hal : sI S1 1 x 0 = nI x := R.ala x hx
  have hI3 := hI2
  rw [hW] at hI3 ⊢
  refine ⟨R3, hI3, fun i hi z => ?_, ⟨m + 1, by omega, ?_, ?_, fun j hj2 => ?_⟩, fun i j q => ?_, ?_⟩
  · have q := hr0 i hi z
    refine ⟨q.1, q.2.1, q.2.2.1, ?_⟩
    by_cases e : i = x
    · simp [mA_pA, e]
    · simp [mA_pA, e]
      exact q.2.2.2
  · obtain ⟨f1, f2, f3, f4, f5, f6, f7, f8, f9, f10⟩ := hF
    refine ⟨f1, f2, ?_, ?_, ?_, ?_, ?_, ?_, ?_, f10⟩
    · simp [sI_wI]; exact f3
    · simp [sI_wI]; exact f4
    · simp [sI_wI]; exact f5
    · simp [sI_wI]
    · simp [sI_wI]; exact f7
    · simp [sI_wI]; exact f8
    · simp [sI_wI]; exact f9
  · simp [mA_pA]
  · by_cases e : j = m
    · subst e
      simp [sI_wI, mA_pA]
      exact hal
    · have q := hj j (by omega)
      simp [sI_wI, mA_pA, e]
      exact q
  · exact hg i j q
  · exact hf.tr (((((cFm.xI ⟨by decide, by decide, by decide⟩).tr (cFm.xI ⟨by decide, by decide, by decide⟩)).tr (cFm.xI ⟨by decide, by decide, by decide⟩)).tr (cFm.xI ⟨by decide, by decide, by decide⟩)).tr (cFm.xI ⟨by decide, by decide, by decide⟩))

set_option maxHeartbeats 1000000 in
theorem sd_E {τ : Nat → Nat → Nat} {l g x m : Nat} {why t : Int32} {S0 S1 : awS} {N : aM} (R : cR τ (vS S1 l) (pS N 63 (nI l))) (hI : mI N) (hr0 : cRest N) (hm : m < 40) (hF : ltF S1 l g why t m) (h67 : mA N 67 l = nI m) (hj : ∀ j, j < m → sI S1 24 l j = mA N 68 (40 * l + j)) (hg : ∀ i j, 4 ≤ j → sI S1 3 i j = sI S0 3 i j) (hf : cFm S0 S1) (hl : l < 200) (hx : x < mN N 30) (he : ¬ mA N 34 x = 0) : sdI τ l g why t S0 (wI (wI (wI (wI S1 24 l m (sI S1 1 x 0)) 4 l 6 (nI (m + 1))) 1 x 9 (sI (wI (wI S1 24 l m (sI S1 1 x 0)) 4 l 6 (nI (m + 1))) 1 x 9 + 1)) 1 x 12 1) (mWrite N l x) := by
  have hx3 : x < 300 := Nat.lt_of_lt_of_le hx (mS_b hI (k := 30) (b := 300) (by decide))
  have eN : mN (pS N 63 (nI l)) 63 = l := nI_cl (by omega)
  have hW : mWrite N l x = (pA (pA (pA (pA (pA N 68 (40 * l + m) (nI x)) 67 l (nI (m + 1))) 38 x (mA (pA (pA N 68 (40 * l + m) (nI x)) 67 l (nI (m + 1))) 38 x + 1)) 39 x 0) 41 x 1) := (mWrite_m h67 hm).trans (if_neg he)
  have hI2 : mI (mWrite N l x) := hI.write hl hx3
  have hIp : mI (pA (pA N 68 (40 * l + m) (nI x)) 67 l (nI (m + 1))) := (hI.qR (b := 300) (by decide) hx3 (by decide)).qR (b := 41) (by decide) (by omega) (by decide)
  have R1 := R.lt eN (S1 := (wI (wI S1 24 l m (sI S1 1 x 0)) 4 l 6 (nI (m + 1)))) ((vS_0.tr (ltE.wI ⟨Or.inr (Or.inr rfl), Nat.le_refl _⟩)).tr (ltE.wI ⟨Or.inl rfl, Nat.le_refl _⟩))
  have R2 := R1.lm eN (N := pS (pA (pA N 68 (40 * l + m) (nI x)) 67 l (nI (m + 1))) 63 (nI l)) (ltM.tr (ltM.w (M := pS N 63 (nI l)) ⟨⟨by decide, by decide⟩, by show 40 * l ≤ 40 * l + m; omega⟩) (ltM.w ⟨⟨by decide, by decide⟩, by show l ≤ l; exact Nat.le_refl l⟩)) (hIp.qSR (b := 200) (by decide) (by omega) (by decide))
  have R3 := R2.tE (x := x) he
  have hal : sI S1 1 x 0 = nI x := R.ala x hx
  have hI3 := hI2
  rw [hW] at hI3 ⊢
  refine ⟨R3, hI3, fun i hi z => ?_, ⟨m + 1, by omega, ?_, ?_, fun j hj2 => ?_⟩, fun i j q => ?_, ?_⟩
  · have q := hr0 i hi z
    refine ⟨q.1, q.2.1, q.2.2.1, ?_⟩
    by_cases e : i = x
    · simp [mA_pA, e]
    · simp [mA_pA, e]
      exact q.2.2.2
  · obtain ⟨f1, f2, f3, f4, f5, f6, f7, f8, f9, f10⟩ := hF
    refine ⟨f1, f2, ?_, ?_, ?_, ?_, ?_, ?_, ?_, f10⟩
    · simp [sI_wI]; exact f3
    · simp [sI_wI]; exact f4
    · simp [sI_wI]; exact f5
    · simp [sI_wI]
    · simp [sI_wI]; exact f7
    · simp [sI_wI]; exact f8
    · simp [sI_wI]; exact f9
  · simp [mA_pA]
  · by_cases e : j = m
    · subst e
      simp [sI_wI, mA_pA]
      exact hal
    · have q := hj j (by omega)
      simp [sI_wI, mA_pA, e]
      exact q
  · exact hg i j q
  · exact hf.tr ((((cFm.xI ⟨by decide, by decide, by decide⟩).tr (cFm.xI ⟨by decide, by decide, by decide⟩)).tr (cFm.xI ⟨by decide, by decide, by decide⟩)).tr (cFm.xI ⟨by decide, by decide, by decide⟩))

