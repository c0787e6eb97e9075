theorem mIx.qBd1 {w : Nat} {M : aM} (h : mIx w M) {d : Nat} {v : Int32} (hv : ¬ v = 1) : mIx w (pA M 79 d v) := by
  refine ⟨h.1, fun q hq => rgA_pA (h.2.1 q hq) (fun z => absurd z (by revert q; decide)), h.ga, h.la, fun r hr => h.i6 hr, fun e he => ?_⟩
  intro z
  rw [mA_pA] at z
  by_cases c : 79 = 79 ∧ e = d
  · rw [if_pos c] at z; exact absurd z hv
  · rw [if_neg c] at z; exact h.bd he z
theorem mIx.qBd {w : Nat} {M : aM} (h : mIx w M) {d : Nat} {v x : Int32} (hv : v = 1 → x = nI (nN x) ∧ nN x < 300) : mIx w (pA (pA M 79 d v) 81 d x) := by
  refine ⟨h.1, fun q hq => rgA_pA (rgA_pA (h.2.1 q hq) (fun z => absurd z (by revert q; decide))) (fun z => absurd z (by revert q; decide)), h.ga, h.la, fun r hr => h.i6 hr, fun e he => ?_⟩
  unfold mIb mE
  intro z
  rw [mA_pA, mA_pA, if_neg (fun q => absurd q.1 (by decide))] at z
  rw [mA_pA]
  by_cases c : e = d
  · rw [if_pos ⟨rfl, c⟩] at z
    rw [if_pos ⟨rfl, c⟩]
    exact hv z
  · rw [if_neg (fun q => c q.2)] at z
    rw [if_neg (fun q => c q.2), mA_pA, if_neg (fun q => absurd q.1 (by decide))]
    exact h.bd he z
theorem mI.rowJ {M : aM} (h : mI M) (F : Nat → aM → aM) (hF : ∀ i N, mI N → mI (F i N)) (n : Nat) : mI (mIter F n M) := mIter_inv (fun N => mI N) h (fun k a _ q => hF k a q)
theorem cFm.xJ {S : awS} {f i n : Nat} {v : Int64} (hf : fmOk f) : cFm S (sFillJ f i v n S) := by
  unfold sFillJ
  exact mIter_inv (fun N => cFm S N) cFm.rf (fun k a _ q => q.tr (cFm.xL hf))

/-- board D gets a row of kind k and size z, all zeros; in the reference the size and what lies in its row below it -/
theorem cR.row0 {τ : Nat → Nat → Nat} {S : awS} {M M2 : aM} (R : cR τ S M) {D z : Nat} {k : Int32} (hD : D < 8) (hz : z ≤ 60) (hk : k = 3 ∨ k = 4) (g : Nat → Int64) (x : Int32) (J : Nat → Int64)
    (hI : mIx 0 M2) (e2 : M2 = (M.1, fun k' j => if k' = 80 ∧ j = D then nI z else if k' = 81 ∧ j = D then x else if k' = 79 ∧ j = D then k else M.2.1 k' j, fun k' j => if k' = 82 ∧ 60 * D ≤ j ∧ j < 60 * D + z then g (j - 60 * D) else M.2.2 k' j))
    {S2 : awS} (eS : S2 = (fun f i q => if f = 2 ∧ i = D ∧ q = 2 then nI z else if f = 2 ∧ i = D ∧ q = 0 then k else S.1 f i q, fun f i q => if f = 25 ∧ i = D ∧ q < 60 then J q else S.2.1 f i q, fun f i q => if f = 2 ∧ i = D ∧ q = 1 then none else S.2.2.1 f i q, S.2.2.2)) (hJ : ∀ j, j < z → J j = g j) : cR τ S2 M2 := by
  have hkn : ¬ k = 1 := fun q => by rw [q] at hk; exact absurd hk (by decide)
  have hk0 : 0 ≤ k ∧ k ≤ 4 := by rcases hk with q | q <;> rw [q] <;> decide
  subst eS
  subst e2
  refine cR.mk' hI R.tow R.lst R.cx R.cnt.2.1 R.cnt.2.2 R.src R.rul R.ala R.ltr (fun d hd => ?_) ⟨R.ix.1, R.ix.2.1, R.ix.2.2.1, R.ix.2.2.2.1, R.ix.2.2.2.2.1, R.ix.2.2.2.2.2.1, R.ix.2.2.2.2.2.2.1, R.ix.2.2.2.2.2.2.2.1, R.ix.2.2.2.2.2.2.2.2.1, R.ix.2.2.2.2.2.2.2.2.2.1, R.ix.2.2.2.2.2.2.2.2.2.2.1, R.ix.2.2.2.2.2.2.2.2.2.2.2.1, R.ix.2.2.2.2.2.2.2.2.2.2.2.2.1, R.ix.2.2.2.2.2.2.2.2.2.2.2.2.2.1, R.ix.2.2.2.2.2.2.2.2.2.2.2.2.2.2.1, R.ix.2.2.2.2.2.2.2.2.2.2.2.2.2.2.2.1, R.ix.2.2.2.2.2.2.2.2.2.2.2.2.2.2.2.2.1, R.ix.2.2.2.2.2.2.2.2.2.2.2.2.2.2.2.2.2.1, R.ix.2.2.2.2.2.2.2.2.2.2.2.2.2.2.2.2.2.2.1, R.ix.2.2.2.2.2.2.2.2.2.2.2.2.2.2.2.2.2.2.2.1, R.ix.2.2.2.2.2.2.2.2.2.2.2.2.2.2.2.2.2.2.2.2.1, R.ix.2.2.2.2.2.2.2.2.2.2.2.2.2.2.2.2.2.2.2.2.2.1, R.ix.2.2.2.2.2.2.2.2.2.2.2.2.2.2.2.2.2.2.2.2.2.2.1, R.ix.2.2.2.2.2.2.2.2.2.2.2.2.2.2.2.2.2.2.2.2.2.2.2.1, R.ix.2.2.2.2.2.2.2.2.2.2.2.2.2.2.2.2.2.2.2.2.2.2.2.2.1, R.ix.2.2.2.2.2.2.2.2.2.2.2.2.2.2.2.2.2.2.2.2.2.2.2.2.2.1, R.ix.2.2.2.2.2.2.2.2.2.2.2.2.2.2.2.2.2.2.2.2.2.2.2.2.2.2.1, R.ix.2.2.2.2.2.2.2.2.2.2.2.2.2.2.2.2.2.2.2.2.2.2.2.2.2.2.2.1, R.ix.2.2.2.2.2.2.2.2.2.2.2.2.2.2.2.2.2.2.2.2.2.2.2.2.2.2.2.2.1, R.ix.2.2.2.2.2.2.2.2.2.2.2.2.2.2.2.2.2.2.2.2.2.2.2.2.2.2.2.2.2.1, R.ix.2.2.2.2.2.2.2.2.2.2.2.2.2.2.2.2.2.2.2.2.2.2.2.2.2.2.2.2.2.2.1, R.ix.2.2.2.2.2.2.2.2.2.2.2.2.2.2.2.2.2.2.2.2.2.2.2.2.2.2.2.2.2.2.2.1, R.ix.2.2.2.2.2.2.2.2.2.2.2.2.2.2.2.2.2.2.2.2.2.2.2.2.2.2.2.2.2.2.2.2.1, R.ix.2.2.2.2.2.2.2.2.2.2.2.2.2.2.2.2.2.2.2.2.2.2.2.2.2.2.2.2.2.2.2.2.2.1, R.ix.2.2.2.2.2.2.2.2.2.2.2.2.2.2.2.2.2.2.2.2.2.2.2.2.2.2.2.2.2.2.2.2.2.2.1, R.ix.2.2.2.2.2.2.2.2.2.2.2.2.2.2.2.2.2.2.2.2.2.2.2.2.2.2.2.2.2.2.2.2.2.2.2.1, R.ix.2.2.2.2.2.2.2.2.2.2.2.2.2.2.2.2.2.2.2.2.2.2.2.2.2.2.2.2.2.2.2.2.2.2.2.2.1, R.ix.2.2.2.2.2.2.2.2.2.2.2.2.2.2.2.2.2.2.2.2.2.2.2.2.2.2.2.2.2.2.2.2.2.2.2.2.2.1, fun i hi => by
    have q := R.int (f := 2) (k := 0) (m := 79) (q := 101) (by decide) hi
    show (if 2 = 2 ∧ i = D ∧ 0 = 2 then nI z else if 2 = 2 ∧ i = D ∧ 0 = 0 then k else S.1 2 i 0) = (if 79 = 80 ∧ i = D then nI z else if 79 = 81 ∧ i = D then x else if 79 = 79 ∧ i = D then k else M.2.1 79 i)
    by_cases c : i = D
    · simp [c]
    · simp [c]; exact q⟩ R.la R.sca R.val R.ref R.wat R.flg R.tru R.hld R.lea R.row (fun d hd => ?_) R.inv
  · obtain ⟨h1, h2⟩ := R.brd d hd
    refine ⟨?_, h2⟩
    show (if 2 = 2 ∧ d = D ∧ 3 = 1 then none else S.2.2.1 2 d 3) = _
    rw [if_neg (fun z => absurd z.2.2 (by decide))]
    exact h1
  · have q := R.bdr d hd
    show (0 ≤ (if 79 = 80 ∧ d = D then nI z else if 79 = 81 ∧ d = D then x else if 79 = 79 ∧ d = D then k else M.2.1 79 d) ∧ (if 79 = 80 ∧ d = D then nI z else if 79 = 81 ∧ d = D then x else if 79 = 79 ∧ d = D then k else M.2.1 79 d) ≤ 4) ∧ ((if 2 = 2 ∧ d = D ∧ 1 = 1 then none else S.2.2.1 2 d 1) = if (if 79 = 80 ∧ d = D then nI z else if 79 = 81 ∧ d = D then x else if 79 = 79 ∧ d = D then k else M.2.1 79 d) = 1 then some (nm 1 (if 81 = 80 ∧ d = D then nI z else if 81 = 81 ∧ d = D then x else if 81 = 79 ∧ d = D then k else M.2.1 81 d).toNatClampNeg) else none) ∧ ((if 79 = 80 ∧ d = D then nI z else if 79 = 81 ∧ d = D then x else if 79 = 79 ∧ d = D then k else M.2.1 79 d) = 1 → (if 81 = 80 ∧ d = D then nI z else if 81 = 81 ∧ d = D then x else if 81 = 79 ∧ d = D then k else M.2.1 81 d).toNatClampNeg < mN M 30) ∧ (3 ≤ (if 79 = 80 ∧ d = D then nI z else if 79 = 81 ∧ d = D then x else if 79 = 79 ∧ d = D then k else M.2.1 79 d) → (if 2 = 2 ∧ d = D ∧ 2 = 2 then nI z else if 2 = 2 ∧ d = D ∧ 2 = 0 then k else S.1 2 d 2) = (if 80 = 80 ∧ d = D then nI z else if 80 = 81 ∧ d = D then x else if 80 = 79 ∧ d = D then k else M.2.1 80 d) ∧ ∀ j, j < (if 80 = 80 ∧ d = D then nI z else if 80 = 81 ∧ d = D then x else if 80 = 79 ∧ d = D then k else M.2.1 80 d).toNatClampNeg → (if 25 = 25 ∧ d = D ∧ j < 60 then J j else S.2.1 25 d j) = (if 82 = 82 ∧ 60 * D ≤ 60 * d + j ∧ 60 * d + j < 60 * D + z then g (60 * d + j - 60 * D) else M.2.2 82 (60 * d + j)))
    by_cases c : d = D
    · subst c
      simp
      refine ⟨hk0, fun w => absurd w hkn, fun w => absurd w hkn, fun _ j hj => ?_⟩
      rw [nI_clamp (by omega)] at hj
      rw [if_pos (by omega), if_pos (by omega)]
      exact hJ j hj
    · simp [c]
      refine ⟨q.1, q.2.1, q.2.2.1, fun w => ⟨(q.2.2.2 w).1, fun j hj => ?_⟩⟩
      have hs := R.mI.A (k := 80) (n := 8) (b := 61) (by decide) hd
      have hj2 : j < 60 := Nat.lt_of_lt_of_le (Nat.lt_of_lt_of_le hj (Nat.le_refl _)) (by have hs2 : (M.2.1 80 d).toNatClampNeg < 61 := hs.2; omega)
      rw [if_neg (by omega)]
      exact (q.2.2.2 w).2 j hj

