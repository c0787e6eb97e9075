set_option maxHeartbeats 400000 in
theorem mA_clearX {M : aM} {t x c j : Nat} (h : c = 34 ∨ ¬ j = x) : mA (mClearX M t x) c j = mA M c j := by
  have n1 : ∀ q, ¬ q = 34 → ¬ (c = q ∧ j = x) := fun q hq z => h.elim (fun e => hq (z.1.symm.trans e)) (fun e => e z.2)
  have hp : ∀ (N : aM) (q : Nat) (v : Int32), ¬ q = 34 → mA (pA N q x v) c j = mA N c j := fun N q v hq => by
    rw [mA_pA, if_neg (fun z => n1 q hq (by omega))]
  unfold mClearX
  simp only []
  split
  · rw [hp _ _ _ (by decide), hp _ _ _ (by decide), hp _ _ _ (by decide), hp _ _ _ (by decide)]
  · split
    · rw [hp _ _ _ (by decide), hp _ _ _ (by decide), hp _ _ _ (by decide), hp _ _ _ (by decide)]
    · rw [hp _ _ _ (by decide), hp _ _ _ (by decide)]
theorem cRest_it (M : aM) (t : Nat) : ∀ k i, i < k → ¬ mA (mIter (fun x M => mClearX M t x) k M) 34 i = 0 → mA (mIter (fun x M => mClearX M t x) k M) 35 i = 0 ∧ mA (mIter (fun x M => mClearX M t x) k M) 36 i = 0 ∧ mA (mIter (fun x M => mClearX M t x) k M) 37 i = 0 ∧ mA (mIter (fun x M => mClearX M t x) k M) 39 i = 0 := by
  intro k
  induction k with
  | zero =>
    intro i hi
    exact absurd hi (Nat.not_lt_zero i)
  | succ k ih =>
    intro i hi hl
    have e : mIter (fun x M => mClearX M t x) (k + 1) M = mClearX (mIter (fun x M => mClearX M t x) k M) t k := rfl
    rw [e] at hl ⊢
    have ihi := ih i
    generalize mIter (fun x M => mClearX M t x) k M = N at hl ihi ⊢
    rw [mA_clearX (Or.inl rfl)] at hl
    by_cases q : i = k
    · subst q
      rw [mClearX_d hl]
      simp [mA_pA]
    · rw [mA_clearX (Or.inr q), mA_clearX (Or.inr q), mA_clearX (Or.inr q), mA_clearX (Or.inr q)]
      exact ihi (by omega) hl
theorem mN_clear (M : aM) (hI : mI M) (t k : Nat) : mN (mClear M t) k = mN M k := by
  show nN (mS (mIter (fun x M => mClearX M t x) (mN M 30) M) k) = _
  rw [(mClear_inv hI t (mN M 30)).2 k]
  rfl
/-- after the marks, what has ended is at rest -/
theorem cRest_clear {M : aM} (hI : mI M) (t : Nat) : cRest (mClear M t) := by
  intro i hi hl
  rw [mN_clear M hI] at hi
  exact cRest_it M t (mN M 30) i hi hl

