theorem cR.stop_inv {τ : Nat → Nat → Nat} {S : awS} {M : aM} {w a t : Nat} (R : cR τ S M) (hw : w < 16 * mN M 6) (hl : ¬ mA M 20 w < 0) (ha : mE M 20 w = a) (ht : 0 < t ∧ t ≤ 400) : cInv τ (pA (pA M 34 a (nI t)) 20 w (-1)) := by
  have hl0 := Int32.not_lt.mp hl
  have ea : mA M 20 w = nI a := (R.lasE hl).trans (by rw [ha])
  have hA := R.lasA (w := w) hw hl
  rw [ha] at hA
  have n0 : ¬ nI t = 0 := fun z => absurd ((nI_eq (b := 0) (by omega) (by decide)).mp z) (by omega)
  refine ⟨R.inv.1, ?_, ?_, ?_, R.inv.2.2.2.2.1, R.inv.2.2.2.2.2.1, R.inv.2.2.2.2.2.2.1, R.inv.2.2.2.2.2.2.2.1, R.inv.2.2.2.2.2.2.2.2.1, R.inv.2.2.2.2.2.2.2.2.2.1, R.inv.2.2.2.2.2.2.2.2.2.2.1, R.inv.2.2.2.2.2.2.2.2.2.2.2⟩
  · intro r s hc hs hr
    have q := R.inv.2.1 r s hc hs hr
    refine ⟨q.1, q.2.1, q.2.2.1, q.2.2.2.1, ?_⟩
    show mA (pA (pA M 34 a (nI t)) 20 w (-1)) 20 (16 * r + s) < 0
    rw [mA_pA]
    by_cases e : 16 * r + s = w
    · rw [if_pos ⟨rfl, e⟩]; decide
    · rw [if_neg (fun z => e z.2)]; exact q.2.2.2.2
  · intro i hi
    obtain ⟨q1, q2, q3, q4, q5, q6⟩ := R.inv.2.2.1 i hi
    refine ⟨q1, q2, q3, q4, fun z => ?_, ?_⟩
    · have z : mA (pA (pA M 34 a (nI t)) 20 w (-1)) 34 i = 0 := z
      rw [mA_pA, if_neg (fun y => absurd y.1 (by decide)), mA_pA] at z
      by_cases e : i = a
      · rw [if_pos ⟨rfl, e⟩] at z; exact absurd z n0
      · rw [if_neg (fun y => e y.2)] at z
        have q5 := q5 z
        have ne : ¬ 16 * mE M 31 i + mE M 32 i = w := fun y => by
          rw [y, ha] at q5
          exact e q5.1.symm
        show ((mA (pA (pA M 34 a (nI t)) 20 w (-1)) 20 (16 * mE M 31 i + mE M 32 i)).toNatClampNeg) = i ∧ 0 ≤ mA (pA (pA M 34 a (nI t)) 20 w (-1)) 20 (16 * mE M 31 i + mE M 32 i)
        rw [mA_pA, if_neg (fun y => ne y.2)]
        exact q5
    · show 0 ≤ mA (pA (pA M 34 a (nI t)) 20 w (-1)) 34 i
      rw [mA_pA, if_neg (fun y => absurd y.1 (by decide)), mA_pA]
      by_cases e : i = a
      · rw [if_pos ⟨rfl, e⟩]; exact nI_nn (by omega)
      · rw [if_neg (fun y => e y.2)]; exact q6
  · intro w' hw' h0
    have h0 : 0 ≤ mA (pA (pA M 34 a (nI t)) 20 w (-1)) 20 w' := h0
    rw [mA_pA] at h0
    by_cases e : w' = w
    · rw [if_pos ⟨rfl, e⟩] at h0; exact absurd h0 (by decide)
    · rw [if_neg (fun y => e y.2)] at h0
      have q := R.inv.2.2.2.1 w' hw' h0
      have ev : mE (pA (pA M 34 a (nI t)) 20 w (-1)) 20 w' = mE M 20 w' := by
        unfold mE
        rw [mA_pA, if_neg (fun y => e y.2)]
        rfl
      rw [ev]
      refine ⟨q.1, q.2.1, ?_⟩
      rw [mA_pA, if_neg (fun y => absurd y.1 (by decide)), mA_pA]
      have ne : ¬ mE M 20 w' = a := fun y => by
        have q2 := q.2.1
        rw [y, hA.2.1] at q2
        exact e q2.symm
      rw [if_neg (fun y => ne y.2)]
      exact q.2.2
theorem cR.stop {τ : Nat → Nat → Nat} {S : awS} {M : aM} {w a t : Nat} (R : cR τ S M) (hw : w < 16 * mN M 6) (hl : ¬ mA M 20 w < 0) (ha : mE M 20 w = a) (ht : 0 < t ∧ t ≤ 400) : cR τ (wR (wI (wI (wI (wI S 1 a 5 (nI t)) 1 a 6 0) 1 a 7 0) 1 a 8 0) 11 w 4 none) (pA (pA M 34 a (nI t)) 20 w (-1)) := by
  have n0 : ¬ nI t = 0 := fun z => absurd ((nI_eq (b := 0) (by omega) (by decide)).mp z) (by omega)
  refine cR.mk' ((R.mI.qF (by decide)).qLa (Or.inl (by decide))) R.tow R.lst R.cx R.cnt.2.1 R.cnt.2.2 R.src (?_) (?_) R.ltr R.brd (?_) R.la R.sca R.val R.ref (?_) (?_) R.tru R.hld R.lea R.row R.bdr (R.stop_inv hw hl ha ht)
  · intro i hi
    obtain ⟨q1, q2, q3, q4, q5, q6, q7, q8, q9, q10⟩ := R.rul i hi
    refine ⟨q1, q2, q3, q4, q5, q6, q7, q8, q9, fun s hs => ?_⟩
    obtain ⟨w1, w2, w3⟩ := q10 s hs
    refine ⟨w1, ?_, w3⟩
    rw [sR_wR, if_neg (fun z => absurd z.2.2 (by decide))]
    exact w2
  · intro i hi
    have q := R.ala i hi
    simp [sI_wI, sI_wR]
    exact q
  · exact ⟨fun i hi => by
    have q := R.int (f := 1) (k := 4) (m := 33) (q := 30) (by decide) hi
    simp [sI_wI, sI_wR, mA_pA]
    exact q, fun i hi => by
    have q := R.int (f := 1) (k := 5) (m := 34) (q := 30) (by decide) hi
    simp [sI_wI, sI_wR, mA_pA]
    by_cases e : i = a
    · simp [e]
    · simp [e]; exact q, fun i hi => by
    have q := R.int (f := 1) (k := 9) (m := 38) (q := 30) (by decide) hi
    simp [sI_wI, sI_wR, mA_pA]
    exact q, fun i hi => by
    have q := R.int (f := 1) (k := 11) (m := 40) (q := 30) (by decide) hi
    simp [sI_wI, sI_wR, mA_pA]
    exact q, fun i hi => by
    have q := R.int (f := 1) (k := 12) (m := 41) (q := 30) (by decide) hi
    simp [sI_wI, sI_wR, mA_pA]
    exact q, R.ix.2.2.2.2.2.1, R.ix.2.2.2.2.2.2.1, R.ix.2.2.2.2.2.2.2.1, R.ix.2.2.2.2.2.2.2.2.1, R.ix.2.2.2.2.2.2.2.2.2.1, R.ix.2.2.2.2.2.2.2.2.2.2.1, R.ix.2.2.2.2.2.2.2.2.2.2.2.1, R.ix.2.2.2.2.2.2.2.2.2.2.2.2.1, R.ix.2.2.2.2.2.2.2.2.2.2.2.2.2.1, R.ix.2.2.2.2.2.2.2.2.2.2.2.2.2.2.1, R.ix.2.2.2.2.2.2.2.2.2.2.2.2.2.2.2.1, R.ix.2.2.2.2.2.2.2.2.2.2.2.2.2.2.2.2.1, R.ix.2.2.2.2.2.2.2.2.2.2.2.2.2.2.2.2.2.1, R.ix.2.2.2.2.2.2.2.2.2.2.2.2.2.2.2.2.2.2.1, R.ix.2.2.2.2.2.2.2.2.2.2.2.2.2.2.2.2.2.2.2.1, R.ix.2.2.2.2.2.2.2.2.2.2.2.2.2.2.2.2.2.2.2.2.1, R.ix.2.2.2.2.2.2.2.2.2.2.2.2.2.2.2.2.2.2.2.2.2.1, R.ix.2.2.2.2.2.2.2.2.2.2.2.2.2.2.2.2.2.2.2.2.2.2.1, R.ix.2.2.2.2.2.2.2.2.2.2.2.2.2.2.2.2.2.2.2.2.2.2.2.1, R.ix.2.2.2.2.2.2.2.2.2.2.2.2.2.2.2.2.2.2.2.2.2.2.2.2.1, R.ix.2.2.2.2.2.2.2.2.2.2.2.2.2.2.2.2.2.2.2.2.2.2.2.2.2.1, R.ix.2.2.2.2.2.2.2.2.2.2.2.2.2.2.2.2.2.2.2.2.2.2.2.2.2.2.1, R.ix.2.2.2.2.2.2.2.2.2.2.2.2.2.2.2.2.2.2.2.2.2.2.2.2.2.2.2.1, R.ix.2.2.2.2.2.2.2.2.2.2.2.2.2.2.2.2.2.2.2.2.2.2.2.2.2.2.2.2.1, R.ix.2.2.2.2.2.2.2.2.2.2.2.2.2.2.2.2.2.2.2.2.2.2.2.2.2.2.2.2.2.1, R.ix.2.2.2.2.2.2.2.2.2.2.2.2.2.2.2.2.2.2.2.2.2.2.2.2.2.2.2.2.2.2.1, R.ix.2.2.2.2.2.2.2.2.2.2.2.2.2.2.2.2.2.2.2.2.2.2.2.2.2.2.2.2.2.2.2.1, R.ix.2.2.2.2.2.2.2.2.2.2.2.2.2.2.2.2.2.2.2.2.2.2.2.2.2.2.2.2.2.2.2.2.1, R.ix.2.2.2.2.2.2.2.2.2.2.2.2.2.2.2.2.2.2.2.2.2.2.2.2.2.2.2.2.2.2.2.2.2.1, R.ix.2.2.2.2.2.2.2.2.2.2.2.2.2.2.2.2.2.2.2.2.2.2.2.2.2.2.2.2.2.2.2.2.2.2.1, R.ix.2.2.2.2.2.2.2.2.2.2.2.2.2.2.2.2.2.2.2.2.2.2.2.2.2.2.2.2.2.2.2.2.2.2.2.1, R.ix.2.2.2.2.2.2.2.2.2.2.2.2.2.2.2.2.2.2.2.2.2.2.2.2.2.2.2.2.2.2.2.2.2.2.2.2.1, R.ix.2.2.2.2.2.2.2.2.2.2.2.2.2.2.2.2.2.2.2.2.2.2.2.2.2.2.2.2.2.2.2.2.2.2.2.2.2.1, R.ix.2.2.2.2.2.2.2.2.2.2.2.2.2.2.2.2.2.2.2.2.2.2.2.2.2.2.2.2.2.2.2.2.2.2.2.2.2.2⟩
  · intro w' hw'
    by_cases e : w' = w
    · rw [e]
      exact Eq.trans (if_pos ⟨rfl, rfl, rfl⟩) (if_pos (show mA (pA (pA M 34 a (nI t)) 20 w (-1)) 20 w < 0 by rw [mA_pA, if_pos ⟨rfl, rfl⟩]; decide)).symm
    · rw [show sR (wR (wI (wI (wI (wI S 1 a 5 (nI t)) 1 a 6 0) 1 a 7 0) 1 a 8 0) 11 w 4 none) 11 w' 4 = sR S 11 w' 4 from if_neg (fun z => e z.2.1), show mA (pA (pA M 34 a (nI t)) 20 w (-1)) 20 w' = mA M 20 w' from if_neg (fun z => e z.2)]
      have q := R.wat w' hw'
      have ev : mE (pA (pA M 34 a (nI t)) 20 w (-1)) 20 w' = mE M 20 w' := by
        unfold mE
        rw [mA_pA, if_neg (fun y => e y.2)]
        rfl
      rw [ev]
      exact q
  · intro i hi
    have q := R.flg i hi
    by_cases e : i = a
    · subst e
      refine ⟨fun z => absurd z ?_, fun _ => ?_⟩
      · rw [mA_pA, if_neg (fun y => absurd y.1 (by decide)), mA_pA, if_pos ⟨rfl, rfl⟩]; exact n0
      · simp [sI_wI, sI_wR]
    · simpa [sI_wI, sI_wR, mA_pA, e] using q

