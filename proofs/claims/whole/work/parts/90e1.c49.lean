theorem cLk_0 : ∀ q ∈ cLk, ¬ q.2.2.2 = 0 := by decide
theorem cLk_k : ∀ q ∈ cLk, q.1 = 6 ∨ q.1 = 11 ∨ ((¬ q.1 = 6 ∧ ¬ q.1 = 11 ∧ ¬ q.1 = 18 ∧ ¬ q.1 = 19 ∧ ¬ q.1 = 20 ∧ ¬ q.1 = 21 ∧ ¬ q.1 = 22) ∧ ¬ (7 ≤ q.2.2.1 ∧ q.2.2.1 ≤ 15) ∧ ¬ q.2.2.2 = 6 ∧ ¬ q.2.2.2 = 100) := by decide
theorem cLk_6 : ∀ q ∈ cLk, q.1 = 6 → q = (6, 1, 7, 6) ∨ q = (6, 3, 10, 6) ∨ q = (6, 4, 11, 6) ∨ q = (6, 5, 12, 6) ∨ q = (6, 6, 13, 6) ∨ q = (6, 7, 8, 6) ∨ q = (6, 8, 14, 6) := by decide
theorem cLk_11 : ∀ q ∈ cLk, q.1 = 11 → q = (11, 1, 17, 100) ∨ q = (11, 2, 18, 100) ∨ q = (11, 3, 19, 100) := by decide
set_option maxHeartbeats 1000000 in
theorem ru_oI {S : awS} {n : Nat} {num what : Int32} {a : Int64} {b_ how site : Int32} {f : Nat} (hf : ¬ f = 6 ∧ ¬ f = 11 ∧ ¬ f = 18 ∧ ¬ f = 19 ∧ ¬ f = 20 ∧ ¬ f = 21 ∧ ¬ f = 22) (i k : Nat) : sI (rS2 S n num what a b_ how site) f i k = sI S f i k := by
  simp [rS2, ruS, ruB, sI, wK, wI, wL, wR, wNew, u3, hf]

set_option maxHeartbeats 1000000 in
theorem ru_mA {M : aM} {what how site b_ : Int32} {a : Int64} {k : Nat} (hk : ¬ (7 ≤ k ∧ k ≤ 15)) (j : Nat) : mA (pS (pA (pA (pA (pA (pA (pA (pL (pA (pA (mT0 M) 7 (mN M 6) (what - what / 100 * 100)) 8 (mN M 6) (what / 100)) 9 (mN M 6) a) 10 (mN M 6) b_) 11 (mN M 6) (how - how / 100 * 100)) 12 (mN M 6) (how / 100 - how / 100 / 100 * 100)) 13 (mN M 6) (how / 10000)) 14 (mN M 6) site) 15 (mN M 6) (mS M 1 + 1)) 6 (mS M 6 + 1)) k j = mA M k j := by
  have e : ¬ k = 7 ∧ ¬ k = 8 ∧ ¬ k = 10 ∧ ¬ k = 11 ∧ ¬ k = 12 ∧ ¬ k = 13 ∧ ¬ k = 14 ∧ ¬ k = 15 := by omega
  simp [mA_pS, mA_pA, mA_pL, mL_pS, mL_pA, mL_pL, mT0, e]

set_option maxHeartbeats 4000000 in
set_option maxRecDepth 100000 in
theorem cR.rule_x61 {τ : Nat → Nat → Nat} {S : awS} {M : aM} {what how site b_ : Int32} {a : Int64} (R : cR τ S M) (hτ : ∀ s, τ (mN M 6) s = mN M 1) (hn : (mN M 6) < 16) (hg : ruleGood M what a b_ how site) : ∀ i, i < cB (pS (pA (pA (pA (pA (pA (pA (pL (pA (pA (mT0 M) 7 (mN M 6) (what - what / 100 * 100)) 8 (mN M 6) (what / 100)) 9 (mN M 6) a) 10 (mN M 6) b_) 11 (mN M 6) (how - how / 100 * 100)) 12 (mN M 6) (how / 100 - how / 100 / 100 * 100)) 13 (mN M 6) (how / 10000)) 14 (mN M 6) site) 15 (mN M 6) (mS M 1 + 1)) 6 (mS M 6 + 1)) 6 → sI (rS2 S (mN M 6) (nI (mN M 6)) what a b_ how site) 6 i 1 = mA (pS (pA (pA (pA (pA (pA (pA (pL (pA (pA (mT0 M) 7 (mN M 6) (what - what / 100 * 100)) 8 (mN M 6) (what / 100)) 9 (mN M 6) a) 10 (mN M 6) b_) 11 (mN M 6) (how - how / 100 * 100)) 12 (mN M 6) (how / 100 - how / 100 / 100 * 100)) 13 (mN M 6) (how / 10000)) 14 (mN M 6) site) 15 (mN M 6) (mS M 1 + 1)) 6 (mS M 6 + 1)) 7 i := by
  have hN : mN (pS (pA (pA (pA (pA (pA (pA (pL (pA (pA (mT0 M) 7 (mN M 6) (what - what / 100 * 100)) 8 (mN M 6) (what / 100)) 9 (mN M 6) a) 10 (mN M 6) b_) 11 (mN M 6) (how - how / 100 * 100)) 12 (mN M 6) (how / 100 - how / 100 / 100 * 100)) 13 (mN M 6) (how / 10000)) 14 (mN M 6) site) 15 (mN M 6) (mS M 1 + 1)) 6 (mS M 6 + 1)) 6 = (mN M 6) + 1 := mN_inc (mS_nI R.mI (k := 6) (b := 16) (by decide)) (by omega)
  have h6 : sC S 6 = (mN M 6) := R.cx.2.2.2.1.trans (Nat.one_mul _)
  have h18 : sC S 18 = (mN M 6) := R.cx.2.2.2.2.1.trans (Nat.one_mul _)
  have h19 : sC S 19 = (mN M 6) := R.cx.2.2.2.2.2.1.trans (Nat.one_mul _)
  have h20 : sC S 20 = (mN M 6) := R.cx.2.2.2.2.2.2.1.trans (Nat.one_mul _)
  have h21 : sC S 21 = (mN M 6) := R.cx.2.2.2.2.2.2.2.1.trans (Nat.one_mul _)
  have hc := ru_c (num := nI (mN M 6)) (what := what) (a := a) (b_ := b_) (how := how) (site := site) h6 h18 h19 h20 h21
  have hn6 := ru_n6 (S := S) (n := (mN M 6)) (num := nI (mN M 6)) (what := what) (a := a) (b_ := b_) (how := how) (site := site)
  have hw0 : ∀ s, s < 16 → (∀ t, t < 401 → mA M 16 (401 * (16 * (mN M 6) + s) + t) = 0) ∧ mA M 18 (16 * (mN M 6) + s) = 0 ∧ mA M 19 (16 * (mN M 6) + s) = 0 ∧ mA M 17 (16 * (mN M 6) + s) = -1 ∧ mA M 20 (16 * (mN M 6) + s) < 0 := fun s hs => R.inv.2.1 (mN M 6) s (Or.inl (Nat.le_refl _)) hs hn
  have hcb : mN M 1 ≤ 400 := R.nC
  have eC1 : mS M 1 + 1 = nI (mN M 1 + 1) := by rw [mS_nI R.mI (k := 1) (b := 400) (by decide)]; exact nI_1 _
  have eCm : mE (pS (pA (pA (pA (pA (pA (pA (pL (pA (pA (mT0 M) 7 (mN M 6) (what - what / 100 * 100)) 8 (mN M 6) (what / 100)) 9 (mN M 6) a) 10 (mN M 6) b_) 11 (mN M 6) (how - how / 100 * 100)) 12 (mN M 6) (how / 100 - how / 100 / 100 * 100)) 13 (mN M 6) (how / 10000)) 14 (mN M 6) site) 15 (mN M 6) (mS M 1 + 1)) 6 (mS M 6 + 1)) 15 (mN M 6) = mN M 1 + 1 := by
    unfold mE
    simp [mA_pS, mA_pA, mA_pL, mL_pS, mL_pA, mL_pL, mT0, eC1]
    exact nI_cl (by omega)
  have eT : ∀ r s t, mTru (pS (pA (pA (pA (pA (pA (pA (pL (pA (pA (mT0 M) 7 (mN M 6) (what - what / 100 * 100)) 8 (mN M 6) (what / 100)) 9 (mN M 6) a) 10 (mN M 6) b_) 11 (mN M 6) (how - how / 100 * 100)) 12 (mN M 6) (how / 100 - how / 100 / 100 * 100)) 13 (mN M 6) (how / 10000)) 14 (mN M 6) site) 15 (mN M 6) (mS M 1 + 1)) 6 (mS M 6 + 1)) r s t = mTru M r s t := fun _ _ _ => rfl
  have hA0 : ∀ p s, leA (pS (pA (pA (pA (pA (pA (pA (pL (pA (pA (mT0 M) 7 (mN M 6) (what - what / 100 * 100)) 8 (mN M 6) (what / 100)) 9 (mN M 6) a) 10 (mN M 6) b_) 11 (mN M 6) (how - how / 100 * 100)) 12 (mN M 6) (how / 100 - how / 100 / 100 * 100)) 13 (mN M 6) (how / 10000)) 14 (mN M 6) site) 15 (mN M 6) (mS M 1 + 1)) 6 (mS M 6 + 1)) (mN M 6) p s (τ (mN M 6) s) = ((0 : Int32), (0 : Int32), false, 0) := fun p s => leA_0 (by rw [eCm, hτ]; exact Nat.le_refl _)
  have hAo : ∀ r p s t, r < (mN M 6) → leA (pS (pA (pA (pA (pA (pA (pA (pL (pA (pA (mT0 M) 7 (mN M 6) (what - what / 100 * 100)) 8 (mN M 6) (what / 100)) 9 (mN M 6) a) 10 (mN M 6) b_) 11 (mN M 6) (how - how / 100 * 100)) 12 (mN M 6) (how / 100 - how / 100 / 100 * 100)) 13 (mN M 6) (how / 10000)) 14 (mN M 6) site) 15 (mN M 6) (mS M 1 + 1)) 6 (mS M 6 + 1)) r p s t = leA M r p s t := fun r p s t hr => by
    have e : ¬ r = (mN M 6) := by omega
    refine leA_cg ?_ ?_ (fun t => rfl)
    · simp [mA_pS, mA_pA, mA_pL, mL_pS, mL_pA, mL_pL, mT0, e]
    · simp [mA_pS, mA_pA, mA_pL, mL_pS, mL_pA, mL_pL, mT0, e]
  exact fun i hi => by
    have hi : i < (mN M 6) + 1 := hN ▸ hi
    by_cases e : i = (mN M 6)
    · subst e
      simp [mA_pS, mA_pA, mA_pL, mL_pS, mL_pA, mL_pL, mT0, hn6]
    · rw [(ru_o6 h6 e 1).1, R.int (f := 6) (k := 1) (m := 7) (q := 6) (by decide) (show i < (mN M 6) by omega)]
      simp [mA_pS, mA_pA, mA_pL, mL_pS, mL_pA, mL_pL, mT0, e]

set_option maxHeartbeats 4000000 in
set_option maxRecDepth 100000 in
theorem cR.rule_x63 {τ : Nat → Nat → Nat} {S : awS} {M : aM} {what how site b_ : Int32} {a : Int64} (R : cR τ S M) (hτ : ∀ s, τ (mN M 6) s = mN M 1) (hn : (mN M 6) < 16) (hg : ruleGood M what a b_ how site) : ∀ i, i < cB (pS (pA (pA (pA (pA (pA (pA (pL (pA (pA (mT0 M) 7 (mN M 6) (what - what / 100 * 100)) 8 (mN M 6) (what / 100)) 9 (mN M 6) a) 10 (mN M 6) b_) 11 (mN M 6) (how - how / 100 * 100)) 12 (mN M 6) (how / 100 - how / 100 / 100 * 100)) 13 (mN M 6) (how / 10000)) 14 (mN M 6) site) 15 (mN M 6) (mS M 1 + 1)) 6 (mS M 6 + 1)) 6 → sI (rS2 S (mN M 6) (nI (mN M 6)) what a b_ how site) 6 i 3 = mA (pS (pA (pA (pA (pA (pA (pA (pL (pA (pA (mT0 M) 7 (mN M 6) (what - what / 100 * 100)) 8 (mN M 6) (what / 100)) 9 (mN M 6) a) 10 (mN M 6) b_) 11 (mN M 6) (how - how / 100 * 100)) 12 (mN M 6) (how / 100 - how / 100 / 100 * 100)) 13 (mN M 6) (how / 10000)) 14 (mN M 6) site) 15 (mN M 6) (mS M 1 + 1)) 6 (mS M 6 + 1)) 10 i := by
  have hN : mN (pS (pA (pA (pA (pA (pA (pA (pL (pA (pA (mT0 M) 7 (mN M 6) (what - what / 100 * 100)) 8 (mN M 6) (what / 100)) 9 (mN M 6) a) 10 (mN M 6) b_) 11 (mN M 6) (how - how / 100 * 100)) 12 (mN M 6) (how / 100 - how / 100 / 100 * 100)) 13 (mN M 6) (how / 10000)) 14 (mN M 6) site) 15 (mN M 6) (mS M 1 + 1)) 6 (mS M 6 + 1)) 6 = (mN M 6) + 1 := mN_inc (mS_nI R.mI (k := 6) (b := 16) (by decide)) (by omega)
  have h6 : sC S 6 = (mN M 6) := R.cx.2.2.2.1.trans (Nat.one_mul _)
  have h18 : sC S 18 = (mN M 6) := R.cx.2.2.2.2.1.trans (Nat.one_mul _)
  have h19 : sC S 19 = (mN M 6) := R.cx.2.2.2.2.2.1.trans (Nat.one_mul _)
  have h20 : sC S 20 = (mN M 6) := R.cx.2.2.2.2.2.2.1.trans (Nat.one_mul _)
  have h21 : sC S 21 = (mN M 6) := R.cx.2.2.2.2.2.2.2.1.trans (Nat.one_mul _)
  have hc := ru_c (num := nI (mN M 6)) (what := what) (a := a) (b_ := b_) (how := how) (site := site) h6 h18 h19 h20 h21
  have hn6 := ru_n6 (S := S) (n := (mN M 6)) (num := nI (mN M 6)) (what := what) (a := a) (b_ := b_) (how := how) (site := site)
  have hw0 : ∀ s, s < 16 → (∀ t, t < 401 → mA M 16 (401 * (16 * (mN M 6) + s) + t) = 0) ∧ mA M 18 (16 * (mN M 6) + s) = 0 ∧ mA M 19 (16 * (mN M 6) + s) = 0 ∧ mA M 17 (16 * (mN M 6) + s) = -1 ∧ mA M 20 (16 * (mN M 6) + s) < 0 := fun s hs => R.inv.2.1 (mN M 6) s (Or.inl (Nat.le_refl _)) hs hn
  have hcb : mN M 1 ≤ 400 := R.nC
  have eC1 : mS M 1 + 1 = nI (mN M 1 + 1) := by rw [mS_nI R.mI (k := 1) (b := 400) (by decide)]; exact nI_1 _
  have eCm : mE (pS (pA (pA (pA (pA (pA (pA (pL (pA (pA (mT0 M) 7 (mN M 6) (what - what / 100 * 100)) 8 (mN M 6) (what / 100)) 9 (mN M 6) a) 10 (mN M 6) b_) 11 (mN M 6) (how - how / 100 * 100)) 12 (mN M 6) (how / 100 - how / 100 / 100 * 100)) 13 (mN M 6) (how / 10000)) 14 (mN M 6) site) 15 (mN M 6) (mS M 1 + 1)) 6 (mS M 6 + 1)) 15 (mN M 6) = mN M 1 + 1 := by
    unfold mE
    simp [mA_pS, mA_pA, mA_pL, mL_pS, mL_pA, mL_pL, mT0, eC1]
    exact nI_cl (by omega)
  have eT : ∀ r s t, mTru (pS (pA (pA (pA (pA (pA (pA (pL (pA (pA (mT0 M) 7 (mN M 6) (what - what / 100 * 100)) 8 (mN M 6) (what / 100)) 9 (mN M 6) a) 10 (mN M 6) b_) 11 (mN M 6) (how - how / 100 * 100)) 12 (mN M 6) (how / 100 - how / 100 / 100 * 100)) 13 (mN M 6) (how / 10000)) 14 (mN M 6) site) 15 (mN M 6) (mS M 1 + 1)) 6 (mS M 6 + 1)) r s t = mTru M r s t := fun _ _ _ => rfl
  have hA0 : ∀ p s, leA (pS (pA (pA (pA (pA (pA (pA (pL (pA (pA (mT0 M) 7 (mN M 6) (what - what / 100 * 100)) 8 (mN M 6) (what / 100)) 9 (mN M 6) a) 10 (mN M 6) b_) 11 (mN M 6) (how - how / 100 * 100)) 12 (mN M 6) (how / 100 - how / 100 / 100 * 100)) 13 (mN M 6) (how / 10000)) 14 (mN M 6) site) 15 (mN M 6) (mS M 1 + 1)) 6 (mS M 6 + 1)) (mN M 6) p s (τ (mN M 6) s) = ((0 : Int32), (0 : Int32), false, 0) := fun p s => leA_0 (by rw [eCm, hτ]; exact Nat.le_refl _)
  have hAo : ∀ r p s t, r < (mN M 6) → leA (pS (pA (pA (pA (pA (pA (pA (pL (pA (pA (mT0 M) 7 (mN M 6) (what - what / 100 * 100)) 8 (mN M 6) (what / 100)) 9 (mN M 6) a) 10 (mN M 6) b_) 11 (mN M 6) (how - how / 100 * 100)) 12 (mN M 6) (how / 100 - how / 100 / 100 * 100)) 13 (mN M 6) (how / 10000)) 14 (mN M 6) site) 15 (mN M 6) (mS M 1 + 1)) 6 (mS M 6 + 1)) r p s t = leA M r p s t := fun r p s t hr => by
    have e : ¬ r = (mN M 6) := by omega
    refine leA_cg ?_ ?_ (fun t => rfl)
    · simp [mA_pS, mA_pA, mA_pL, mL_pS, mL_pA, mL_pL, mT0, e]
    · simp [mA_pS, mA_pA, mA_pL, mL_pS, mL_pA, mL_pL, mT0, e]
  exact fun i hi => by
    have hi : i < (mN M 6) + 1 := hN ▸ hi
    by_cases e : i = (mN M 6)
    · subst e
      simp [mA_pS, mA_pA, mA_pL, mL_pS, mL_pA, mL_pL, mT0, hn6]
    · rw [(ru_o6 h6 e 3).1, R.int (f := 6) (k := 3) (m := 10) (q := 6) (by decide) (show i < (mN M 6) by omega)]
      simp [mA_pS, mA_pA, mA_pL, mL_pS, mL_pA, mL_pL, mT0, e]

set_option maxHeartbeats 4000000 in
set_option maxRecDepth 100000 in
theorem cR.rule_x64 {τ : Nat → Nat → Nat} {S : awS} {M : aM} {what how site b_ : Int32} {a : Int64} (R : cR τ S M) (hτ : ∀ s, τ (mN M 6) s = mN M 1) (hn : (mN M 6) < 16) (hg : ruleGood M what a b_ how site) : ∀ i, i < cB (pS (pA (pA (pA (pA (pA (pA (pL (pA (pA (mT0 M) 7 (mN M 6) (what - what / 100 * 100)) 8 (mN M 6) (what / 100)) 9 (mN M 6) a) 10 (mN M 6) b_) 11 (mN M 6) (how - how / 100 * 100)) 12 (mN M 6) (how / 100 - how / 100 / 100 * 100)) 13 (mN M 6) (how / 10000)) 14 (mN M 6) site) 15 (mN M 6) (mS M 1 + 1)) 6 (mS M 6 + 1)) 6 → sI (rS2 S (mN M 6) (nI (mN M 6)) what a b_ how site) 6 i 4 = mA (pS (pA (pA (pA (pA (pA (pA (pL (pA (pA (mT0 M) 7 (mN M 6) (what - what / 100 * 100)) 8 (mN M 6) (what / 100)) 9 (mN M 6) a) 10 (mN M 6) b_) 11 (mN M 6) (how - how / 100 * 100)) 12 (mN M 6) (how / 100 - how / 100 / 100 * 100)) 13 (mN M 6) (how / 10000)) 14 (mN M 6) site) 15 (mN M 6) (mS M 1 + 1)) 6 (mS M 6 + 1)) 11 i := by
  have hN : mN (pS (pA (pA (pA (pA (pA (pA (pL (pA (pA (mT0 M) 7 (mN M 6) (what - what / 100 * 100)) 8 (mN M 6) (what / 100)) 9 (mN M 6) a) 10 (mN M 6) b_) 11 (mN M 6) (how - how / 100 * 100)) 12 (mN M 6) (how / 100 - how / 100 / 100 * 100)) 13 (mN M 6) (how / 10000)) 14 (mN M 6) site) 15 (mN M 6) (mS M 1 + 1)) 6 (mS M 6 + 1)) 6 = (mN M 6) + 1 := mN_inc (mS_nI R.mI (k := 6) (b := 16) (by decide)) (by omega)
  have h6 : sC S 6 = (mN M 6) := R.cx.2.2.2.1.trans (Nat.one_mul _)
  have h18 : sC S 18 = (mN M 6) := R.cx.2.2.2.2.1.trans (Nat.one_mul _)
  have h19 : sC S 19 = (mN M 6) := R.cx.2.2.2.2.2.1.trans (Nat.one_mul _)
  have h20 : sC S 20 = (mN M 6) := R.cx.2.2.2.2.2.2.1.trans (Nat.one_mul _)
  have h21 : sC S 21 = (mN M 6) := R.cx.2.2.2.2.2.2.2.1.trans (Nat.one_mul _)
  have hc := ru_c (num := nI (mN M 6)) (what := what) (a := a) (b_ := b_) (how := how) (site := site) h6 h18 h19 h20 h21
  have hn6 := ru_n6 (S := S) (n := (mN M 6)) (num := nI (mN M 6)) (what := what) (a := a) (b_ := b_) (how := how) (site := site)
  have hw0 : ∀ s, s < 16 → (∀ t, t < 401 → mA M 16 (401 * (16 * (mN M 6) + s) + t) = 0) ∧ mA M 18 (16 * (mN M 6) + s) = 0 ∧ mA M 19 (16 * (mN M 6) + s) = 0 ∧ mA M 17 (16 * (mN M 6) + s) = -1 ∧ mA M 20 (16 * (mN M 6) + s) < 0 := fun s hs => R.inv.2.1 (mN M 6) s (Or.inl (Nat.le_refl _)) hs hn
  have hcb : mN M 1 ≤ 400 := R.nC
  have eC1 : mS M 1 + 1 = nI (mN M 1 + 1) := by rw [mS_nI R.mI (k := 1) (b := 400) (by decide)]; exact nI_1 _
  have eCm : mE (pS (pA (pA (pA (pA (pA (pA (pL (pA (pA (mT0 M) 7 (mN M 6) (what - what / 100 * 100)) 8 (mN M 6) (what / 100)) 9 (mN M 6) a) 10 (mN M 6) b_) 11 (mN M 6) (how - how / 100 * 100)) 12 (mN M 6) (how / 100 - how / 100 / 100 * 100)) 13 (mN M 6) (how / 10000)) 14 (mN M 6) site) 15 (mN M 6) (mS M 1 + 1)) 6 (mS M 6 + 1)) 15 (mN M 6) = mN M 1 + 1 := by
    unfold mE
    simp [mA_pS, mA_pA, mA_pL, mL_pS, mL_pA, mL_pL, mT0, eC1]
    exact nI_cl (by omega)
  have eT : ∀ r s t, mTru (pS (pA (pA (pA (pA (pA (pA (pL (pA (pA (mT0 M) 7 (mN M 6) (what - what / 100 * 100)) 8 (mN M 6) (what / 100)) 9 (mN M 6) a) 10 (mN M 6) b_) 11 (mN M 6) (how - how / 100 * 100)) 12 (mN M 6) (how / 100 - how / 100 / 100 * 100)) 13 (mN M 6) (how / 10000)) 14 (mN M 6) site) 15 (mN M 6) (mS M 1 + 1)) 6 (mS M 6 + 1)) r s t = mTru M r s t := fun _ _ _ => rfl
  have hA0 : ∀ p s, leA (pS (pA (pA (pA (pA (pA (pA (pL (pA (pA (mT0 M) 7 (mN M 6) (what - what / 100 * 100)) 8 (mN M 6) (what / 100)) 9 (mN M 6) a) 10 (mN M 6) b_) 11 (mN M 6) (how - how / 100 * 100)) 12 (mN M 6) (how / 100 - how / 100 / 100 * 100)) 13 (mN M 6) (how / 10000)) 14 (mN M 6) site) 15 (mN M 6) (mS M 1 + 1)) 6 (mS M 6 + 1)) (mN M 6) p s (τ (mN M 6) s) = ((0 : Int32), (0 : Int32), false, 0) := fun p s => leA_0 (by rw [eCm, hτ]; exact Nat.le_refl _)
  have hAo : ∀ r p s t, r < (mN M 6) → leA (pS (pA (pA (pA (pA (pA (pA (pL (pA (pA (mT0 M) 7 (mN M 6) (what - what / 100 * 100)) 8 (mN M 6) (what / 100)) 9 (mN M 6) a) 10 (mN M 6) b_) 11 (mN M 6) (how - how / 100 * 100)) 12 (mN M 6) (how / 100 - how / 100 / 100 * 100)) 13 (mN M 6) (how / 10000)) 14 (mN M 6) site) 15 (mN M 6) (mS M 1 + 1)) 6 (mS M 6 + 1)) r p s t = leA M r p s t := fun r p s t hr => by
    have e : ¬ r = (mN M 6) := by omega
    refine leA_cg ?_ ?_ (fun t => rfl)
    · simp [mA_pS, mA_pA, mA_pL, mL_pS, mL_pA, mL_pL, mT0, e]
    · simp [mA_pS, mA_pA, mA_pL, mL_pS, mL_pA, mL_pL, mT0, e]
  exact fun i hi => by
    have hi : i < (mN M 6) + 1 := hN ▸ hi
    by_cases e : i = (mN M 6)
    · subst e
      simp [mA_pS, mA_pA, mA_pL, mL_pS, mL_pA, mL_pL, mT0, hn6]
    · rw [(ru_o6 h6 e 4).1, R.int (f := 6) (k := 4) (m := 11) (q := 6) (by decide) (show i < (mN M 6) by omega)]
      simp [mA_pS, mA_pA, mA_pL, mL_pS, mL_pA, mL_pL, mT0, e]

set_option maxHeartbeats 4000000 in
set_option maxRecDepth 100000 in
theorem cR.rule_x65 {τ : Nat → Nat → Nat} {S : awS} {M : aM} {what how site b_ : Int32} {a : Int64} (R : cR τ S M) (hτ : ∀ s, τ (mN M 6) s = mN M 1) (hn : (mN M 6) < 16) (hg : ruleGood M what a b_ how site) : ∀ i, i < cB (pS (pA (pA (pA (pA (pA (pA (pL (pA (pA (mT0 M) 7 (mN M 6) (what - what / 100 * 100)) 8 (mN M 6) (what / 100)) 9 (mN M 6) a) 10 (mN M 6) b_) 11 (mN M 6) (how - how / 100 * 100)) 12 (mN M 6) (how / 100 - how / 100 / 100 * 100)) 13 (mN M 6) (how / 10000)) 14 (mN M 6) site) 15 (mN M 6) (mS M 1 + 1)) 6 (mS M 6 + 1)) 6 → sI (rS2 S (mN M 6) (nI (mN M 6)) what a b_ how site) 6 i 5 = mA (pS (pA (pA (pA (pA (pA (pA (pL (pA (pA (mT0 M) 7 (mN M 6) (what - what / 100 * 100)) 8 (mN M 6) (what / 100)) 9 (mN M 6) a) 10 (mN M 6) b_) 11 (mN M 6) (how - how / 100 * 100)) 12 (mN M 6) (how / 100 - how / 100 / 100 * 100)) 13 (mN M 6) (how / 10000)) 14 (mN M 6) site) 15 (mN M 6) (mS M 1 + 1)) 6 (mS M 6 + 1)) 12 i := by
  have hN : mN (pS (pA (pA (pA (pA (pA (pA (pL (pA (pA (mT0 M) 7 (mN M 6) (what - what / 100 * 100)) 8 (mN M 6) (what / 100)) 9 (mN M 6) a) 10 (mN M 6) b_) 11 (mN M 6) (how - how / 100 * 100)) 12 (mN M 6) (how / 100 - how / 100 / 100 * 100)) 13 (mN M 6) (how / 10000)) 14 (mN M 6) site) 15 (mN M 6) (mS M 1 + 1)) 6 (mS M 6 + 1)) 6 = (mN M 6) + 1 := mN_inc (mS_nI R.mI (k := 6) (b := 16) (by decide)) (by omega)
  have h6 : sC S 6 = (mN M 6) := R.cx.2.2.2.1.trans (Nat.one_mul _)
  have h18 : sC S 18 = (mN M 6) := R.cx.2.2.2.2.1.trans (Nat.one_mul _)
  have h19 : sC S 19 = (mN M 6) := R.cx.2.2.2.2.2.1.trans (Nat.one_mul _)
  have h20 : sC S 20 = (mN M 6) := R.cx.2.2.2.2.2.2.1.trans (Nat.one_mul _)
  have h21 : sC S 21 = (mN M 6) := R.cx.2.2.2.2.2.2.2.1.trans (Nat.one_mul _)
  have hc := ru_c (num := nI (mN M 6)) (what := what) (a := a) (b_ := b_) (how := how) (site := site) h6 h18 h19 h20 h21
  have hn6 := ru_n6 (S := S) (n := (mN M 6)) (num := nI (mN M 6)) (what := what) (a := a) (b_ := b_) (how := how) (site := site)
  have hw0 : ∀ s, s < 16 → (∀ t, t < 401 → mA M 16 (401 * (16 * (mN M 6) + s) + t) = 0) ∧ mA M 18 (16 * (mN M 6) + s) = 0 ∧ mA M 19 (16 * (mN M 6) + s) = 0 ∧ mA M 17 (16 * (mN M 6) + s) = -1 ∧ mA M 20 (16 * (mN M 6) + s) < 0 := fun s hs => R.inv.2.1 (mN M 6) s (Or.inl (Nat.le_refl _)) hs hn
  have hcb : mN M 1 ≤ 400 := R.nC
  have eC1 : mS M 1 + 1 = nI (mN M 1 + 1) := by rw [mS_nI R.mI (k := 1) (b := 400) (by decide)]; exact nI_1 _
  have eCm : mE (pS (pA (pA (pA (pA (pA (pA (pL (pA (pA (mT0 M) 7 (mN M 6) (what - what / 100 * 100)) 8 (mN M 6) (what / 100)) 9 (mN M 6) a) 10 (mN M 6) b_) 11 (mN M 6) (how - how / 100 * 100)) 12 (mN M 6) (how / 100 - how / 100 / 100 * 100)) 13 (mN M 6) (how / 10000)) 14 (mN M 6) site) 15 (mN M 6) (mS M 1 + 1)) 6 (mS M 6 + 1)) 15 (mN M 6) = mN M 1 + 1 := by
    unfold mE
    simp [mA_pS, mA_pA, mA_pL, mL_pS, mL_pA, mL_pL, mT0, eC1]
    exact nI_cl (by omega)
  have eT : ∀ r s t, mTru (pS (pA (pA (pA (pA (pA (pA (pL (pA (pA (mT0 M) 7 (mN M 6) (what - what / 100 * 100)) 8 (mN M 6) (what / 100)) 9 (mN M 6) a) 10 (mN M 6) b_) 11 (mN M 6) (how - how / 100 * 100)) 12 (mN M 6) (how / 100 - how / 100 / 100 * 100)) 13 (mN M 6) (how / 10000)) 14 (mN M 6) site) 15 (mN M 6) (mS M 1 + 1)) 6 (mS M 6 + 1)) r s t = mTru M r s t := fun _ _ _ => rfl
  have hA0 : ∀ p s, leA (pS (pA (pA (pA (pA (pA (pA (pL (pA (pA (mT0 M) 7 (mN M 6) (what - what / 100 * 100)) 8 (mN M 6) (what / 100)) 9 (mN M 6) a) 10 (mN M 6) b_) 11 (mN M 6) (how - how / 100 * 100)) 12 (mN M 6) (how / 100 - how / 100 / 100 * 100)) 13 (mN M 6) (how / 10000)) 14 (mN M 6) site) 15 (mN M 6) (mS M 1 + 1)) 6 (mS M 6 + 1)) (mN M 6) p s (τ (mN M 6) s) = ((0 : Int32), (0 : Int32), false, 0) := fun p s => leA_0 (by rw [eCm, hτ]; exact Nat.le_refl _)
  have hAo : ∀ r p s t, r < (mN M 6) → leA (pS (pA (pA (pA (pA (pA (pA (pL (pA (pA (mT0 M) 7 (mN M 6) (what - what / 100 * 100)) 8 (mN M 6) (what / 100)) 9 (mN M 6) a) 10 (mN M 6) b_) 11 (mN M 6) (how - how / 100 * 100)) 12 (mN M 6) (how / 100 - how / 100 / 100 * 100)) 13 (mN M 6) (how / 10000)) 14 (mN M 6) site) 15 (mN M 6) (mS M 1 + 1)) 6 (mS M 6 + 1)) r p s t = leA M r p s t := fun r p s t hr => by
    have e : ¬ r = (mN M 6) := by omega
    refine leA_cg ?_ ?_ (fun t => rfl)
    · simp [mA_pS, mA_pA, mA_pL, mL_pS, mL_pA, mL_pL, mT0, e]
    · simp [mA_pS, mA_pA, mA_pL, mL_pS, mL_pA, mL_pL, mT0, e]
  exact fun i hi => by
    have hi : i < (mN M 6) + 1 := hN ▸ hi
    by_cases e : i = (mN M 6)
    · subst e
      simp [mA_pS, mA_pA, mA_pL, mL_pS, mL_pA, mL_pL, mT0, hn6]
    · rw [(ru_o6 h6 e 5).1, R.int (f := 6) (k := 5) (m := 12) (q := 6) (by decide) (show i < (mN M 6) by omega)]
      simp [mA_pS, mA_pA, mA_pL, mL_pS, mL_pA, mL_pL, mT0, e]

set_option maxHeartbeats 4000000 in
set_option maxRecDepth 100000 in
theorem cR.rule_x66 {τ : Nat → Nat → Nat} {S : awS} {M : aM} {what how site b_ : Int32} {a : Int64} (R : cR τ S M) (hτ : ∀ s, τ (mN M 6) s = mN M 1) (hn : (mN M 6) < 16) (hg : ruleGood M what a b_ how site) : ∀ i, i < cB (pS (pA (pA (pA (pA (pA (pA (pL (pA (pA (mT0 M) 7 (mN M 6) (what - what / 100 * 100)) 8 (mN M 6) (what / 100)) 9 (mN M 6) a) 10 (mN M 6) b_) 11 (mN M 6) (how - how / 100 * 100)) 12 (mN M 6) (how / 100 - how / 100 / 100 * 100)) 13 (mN M 6) (how / 10000)) 14 (mN M 6) site) 15 (mN M 6) (mS M 1 + 1)) 6 (mS M 6 + 1)) 6 → sI (rS2 S (mN M 6) (nI (mN M 6)) what a b_ how site) 6 i 6 = mA (pS (pA (pA (pA (pA (pA (pA (pL (pA (pA (mT0 M) 7 (mN M 6) (what - what / 100 * 100)) 8 (mN M 6) (what / 100)) 9 (mN M 6) a) 10 (mN M 6) b_) 11 (mN M 6) (how - how / 100 * 100)) 12 (mN M 6) (how / 100 - how / 100 / 100 * 100)) 13 (mN M 6) (how / 10000)) 14 (mN M 6) site) 15 (mN M 6) (mS M 1 + 1)) 6 (mS M 6 + 1)) 13 i := by
  have hN : mN (pS (pA (pA (pA (pA (pA (pA (pL (pA (pA (mT0 M) 7 (mN M 6) (what - what / 100 * 100)) 8 (mN M 6) (what / 100)) 9 (mN M 6) a) 10 (mN M 6) b_) 11 (mN M 6) (how - how / 100 * 100)) 12 (mN M 6) (how / 100 - how / 100 / 100 * 100)) 13 (mN M 6) (how / 10000)) 14 (mN M 6) site) 15 (mN M 6) (mS M 1 + 1)) 6 (mS M 6 + 1)) 6 = (mN M 6) + 1 := mN_inc (mS_nI R.mI (k := 6) (b := 16) (by decide)) (by omega)
  have h6 : sC S 6 = (mN M 6) := R.cx.2.2.2.1.trans (Nat.one_mul _)
  have h18 : sC S 18 = (mN M 6) := R.cx.2.2.2.2.1.trans (Nat.one_mul _)
  have h19 : sC S 19 = (mN M 6) := R.cx.2.2.2.2.2.1.trans (Nat.one_mul _)
  have h20 : sC S 20 = (mN M 6) := R.cx.2.2.2.2.2.2.1.trans (Nat.one_mul _)
  have h21 : sC S 21 = (mN M 6) := R.cx.2.2.2.2.2.2.2.1.trans (Nat.one_mul _)
  have hc := ru_c (num := nI (mN M 6)) (what := what) (a := a) (b_ := b_) (how := how) (site := site) h6 h18 h19 h20 h21
  have hn6 := ru_n6 (S := S) (n := (mN M 6)) (num := nI (mN M 6)) (what := what) (a := a) (b_ := b_) (how := how) (site := site)
  have hw0 : ∀ s, s < 16 → (∀ t, t < 401 → mA M 16 (401 * (16 * (mN M 6) + s) + t) = 0) ∧ mA M 18 (16 * (mN M 6) + s) = 0 ∧ mA M 19 (16 * (mN M 6) + s) = 0 ∧ mA M 17 (16 * (mN M 6) + s) = -1 ∧ mA M 20 (16 * (mN M 6) + s) < 0 := fun s hs => R.inv.2.1 (mN M 6) s (Or.inl (Nat.le_refl _)) hs hn
  have hcb : mN M 1 ≤ 400 := R.nC
  have eC1 : mS M 1 + 1 = nI (mN M 1 + 1) := by rw [mS_nI R.mI (k := 1) (b := 400) (by decide)]; exact nI_1 _
  have eCm : mE (pS (pA (pA (pA (pA (pA (pA (pL (pA (pA (mT0 M) 7 (mN M 6) (what - what / 100 * 100)) 8 (mN M 6) (what / 100)) 9 (mN M 6) a) 10 (mN M 6) b_) 11 (mN M 6) (how - how / 100 * 100)) 12 (mN M 6) (how / 100 - how / 100 / 100 * 100)) 13 (mN M 6) (how / 10000)) 14 (mN M 6) site) 15 (mN M 6) (mS M 1 + 1)) 6 (mS M 6 + 1)) 15 (mN M 6) = mN M 1 + 1 := by
    unfold mE
    simp [mA_pS, mA_pA, mA_pL, mL_pS, mL_pA, mL_pL, mT0, eC1]
    exact nI_cl (by omega)
  have eT : ∀ r s t, mTru (pS (pA (pA (pA (pA (pA (pA (pL (pA (pA (mT0 M) 7 (mN M 6) (what - what / 100 * 100)) 8 (mN M 6) (what / 100)) 9 (mN M 6) a) 10 (mN M 6) b_) 11 (mN M 6) (how - how / 100 * 100)) 12 (mN M 6) (how / 100 - how / 100 / 100 * 100)) 13 (mN M 6) (how / 10000)) 14 (mN M 6) site) 15 (mN M 6) (mS M 1 + 1)) 6 (mS M 6 + 1)) r s t = mTru M r s t := fun _ _ _ => rfl
  have hA0 : ∀ p s, leA (pS (pA (pA (pA (pA (pA (pA (pL (pA (pA (mT0 M) 7 (mN M 6) (what - what / 100 * 100)) 8 (mN M 6) (what / 100)) 9 (mN M 6) a) 10 (mN M 6) b_) 11 (mN M 6) (how - how / 100 * 100)) 12 (mN M 6) (how / 100 - how / 100 / 100 * 100)) 13 (mN M 6) (how / 10000)) 14 (mN M 6) site) 15 (mN M 6) (mS M 1 + 1)) 6 (mS M 6 + 1)) (mN M 6) p s (τ (mN M 6) s) = ((0 : Int32), (0 : Int32), false, 0) := fun p s => leA_0 (by rw [eCm, hτ]; exact Nat.le_refl _)
  have hAo : ∀ r p s t, r < (mN M 6) → leA (pS (pA (pA (pA (pA (pA (pA (pL (pA (pA (mT0 M) 7 (mN M 6) (what - what / 100 * 100)) 8 (mN M 6) (what / 100)) 9 (mN M 6) a) 10 (mN M 6) b_) 11 (mN M 6) (how - how / 100 * 100)) 12 (mN M 6) (how / 100 - how / 100 / 100 * 100)) 13 (mN M 6) (how / 10000)) 14 (mN M 6) site) 15 (mN M 6) (mS M 1 + 1)) 6 (mS M 6 + 1)) r p s t = leA M r p s t := fun r p s t hr => by
    have e : ¬ r = (mN M 6) := by omega
    refine leA_cg ?_ ?_ (fun t => rfl)
    · simp [mA_pS, mA_pA, mA_pL, mL_pS, mL_pA, mL_pL, mT0, e]
    · simp [mA_pS, mA_pA, mA_pL, mL_pS, mL_pA, mL_pL, mT0, e]
  exact fun i hi => by
    have hi : i < (mN M 6) + 1 := hN ▸ hi
    by_cases e : i = (mN M 6)
    · subst e
      simp [mA_pS, mA_pA, mA_pL, mL_pS, mL_pA, mL_pL, mT0, hn6]
    · rw [(ru_o6 h6 e 6).1, R.int (f := 6) (k := 6) (m := 13) (q := 6) (by decide) (show i < (mN M 6) by omega)]
      simp [mA_pS, mA_pA, mA_pL, mL_pS, mL_pA, mL_pL, mT0, e]

set_option maxHeartbeats 4000000 in
set_option maxRecDepth 100000 in
theorem cR.rule_x67 {τ : Nat → Nat → Nat} {S : awS} {M : aM} {what how site b_ : Int32} {a : Int64} (R : cR τ S M) (hτ : ∀ s, τ (mN M 6) s = mN M 1) (hn : (mN M 6) < 16) (hg : ruleGood M what a b_ how site) : ∀ i, i < cB (pS (pA (pA (pA (pA (pA (pA (pL (pA (pA (mT0 M) 7 (mN M 6) (what - what / 100 * 100)) 8 (mN M 6) (what / 100)) 9 (mN M 6) a) 10 (mN M 6) b_) 11 (mN M 6) (how - how / 100 * 100)) 12 (mN M 6) (how / 100 - how / 100 / 100 * 100)) 13 (mN M 6) (how / 10000)) 14 (mN M 6) site) 15 (mN M 6) (mS M 1 + 1)) 6 (mS M 6 + 1)) 6 → sI (rS2 S (mN M 6) (nI (mN M 6)) what a b_ how site) 6 i 7 = mA (pS (pA (pA (pA (pA (pA (pA (pL (pA (pA (mT0 M) 7 (mN M 6) (what - what / 100 * 100)) 8 (mN M 6) (what / 100)) 9 (mN M 6) a) 10 (mN M 6) b_) 11 (mN M 6) (how - how / 100 * 100)) 12 (mN M 6) (how / 100 - how / 100 / 100 * 100)) 13 (mN M 6) (how / 10000)) 14 (mN M 6) site) 15 (mN M 6) (mS M 1 + 1)) 6 (mS M 6 + 1)) 8 i := by
  have hN : mN (pS (pA (pA (pA (pA (pA (pA (pL (pA (pA (mT0 M) 7 (mN M 6) (what - what / 100 * 100)) 8 (mN M 6) (what / 100)) 9 (mN M 6) a) 10 (mN M 6) b_) 11 (mN M 6) (how - how / 100 * 100)) 12 (mN M 6) (how / 100 - how / 100 / 100 * 100)) 13 (mN M 6) (how / 10000)) 14 (mN M 6) site) 15 (mN M 6) (mS M 1 + 1)) 6 (mS M 6 + 1)) 6 = (mN M 6) + 1 := mN_inc (mS_nI R.mI (k := 6) (b := 16) (by decide)) (by omega)
  have h6 : sC S 6 = (mN M 6) := R.cx.2.2.2.1.trans (Nat.one_mul _)
  have h18 : sC S 18 = (mN M 6) := R.cx.2.2.2.2.1.trans (Nat.one_mul _)
  have h19 : sC S 19 = (mN M 6) := R.cx.2.2.2.2.2.1.trans (Nat.one_mul _)
  have h20 : sC S 20 = (mN M 6) := R.cx.2.2.2.2.2.2.1.trans (Nat.one_mul _)
  have h21 : sC S 21 = (mN M 6) := R.cx.2.2.2.2.2.2.2.1.trans (Nat.one_mul _)
  have hc := ru_c (num := nI (mN M 6)) (what := what) (a := a) (b_ := b_) (how := how) (site := site) h6 h18 h19 h20 h21
  have hn6 := ru_n6 (S := S) (n := (mN M 6)) (num := nI (mN M 6)) (what := what) (a := a) (b_ := b_) (how := how) (site := site)
  have hw0 : ∀ s, s < 16 → (∀ t, t < 401 → mA M 16 (401 * (16 * (mN M 6) + s) + t) = 0) ∧ mA M 18 (16 * (mN M 6) + s) = 0 ∧ mA M 19 (16 * (mN M 6) + s) = 0 ∧ mA M 17 (16 * (mN M 6) + s) = -1 ∧ mA M 20 (16 * (mN M 6) + s) < 0 := fun s hs => R.inv.2.1 (mN M 6) s (Or.inl (Nat.le_refl _)) hs hn
  have hcb : mN M 1 ≤ 400 := R.nC
  have eC1 : mS M 1 + 1 = nI (mN M 1 + 1) := by rw [mS_nI R.mI (k := 1) (b := 400) (by decide)]; exact nI_1 _
  have eCm : mE (pS (pA (pA (pA (pA (pA (pA (pL (pA (pA (mT0 M) 7 (mN M 6) (what - what / 100 * 100)) 8 (mN M 6) (what / 100)) 9 (mN M 6) a) 10 (mN M 6) b_) 11 (mN M 6) (how - how / 100 * 100)) 12 (mN M 6) (how / 100 - how / 100 / 100 * 100)) 13 (mN M 6) (how / 10000)) 14 (mN M 6) site) 15 (mN M 6) (mS M 1 + 1)) 6 (mS M 6 + 1)) 15 (mN M 6) = mN M 1 + 1 := by
    unfold mE
    simp [mA_pS, mA_pA, mA_pL, mL_pS, mL_pA, mL_pL, mT0, eC1]
    exact nI_cl (by omega)
  have eT : ∀ r s t, mTru (pS (pA (pA (pA (pA (pA (pA (pL (pA (pA (mT0 M) 7 (mN M 6) (what - what / 100 * 100)) 8 (mN M 6) (what / 100)) 9 (mN M 6) a) 10 (mN M 6) b_) 11 (mN M 6) (how - how / 100 * 100)) 12 (mN M 6) (how / 100 - how / 100 / 100 * 100)) 13 (mN M 6) (how / 10000)) 14 (mN M 6) site) 15 (mN M 6) (mS M 1 + 1)) 6 (mS M 6 + 1)) r s t = mTru M r s t := fun _ _ _ => rfl
  have hA0 : ∀ p s, leA (pS (pA (pA (pA (pA (pA (pA (pL (pA (pA (mT0 M) 7 (mN M 6) (what - what / 100 * 100)) 8 (mN M 6) (what / 100)) 9 (mN M 6) a) 10 (mN M 6) b_) 11 (mN M 6) (how - how / 100 * 100)) 12 (mN M 6) (how / 100 - how / 100 / 100 * 100)) 13 (mN M 6) (how / 10000)) 14 (mN M 6) site) 15 (mN M 6) (mS M 1 + 1)) 6 (mS M 6 + 1)) (mN M 6) p s (τ (mN M 6) s) = ((0 : Int32), (0 : Int32), false, 0) := fun p s => leA_0 (by rw [eCm, hτ]; exact Nat.le_refl _)
  have hAo : ∀ r p s t, r < (mN M 6) → leA (pS (pA (pA (pA (pA (pA (pA (pL (pA (pA (mT0 M) 7 (mN M 6) (what - what / 100 * 100)) 8 (mN M 6) (what / 100)) 9 (mN M 6) a) 10 (mN M 6) b_) 11 (mN M 6) (how - how / 100 * 100)) 12 (mN M 6) (how / 100 - how / 100 / 100 * 100)) 13 (mN M 6) (how / 10000)) 14 (mN M 6) site) 15 (mN M 6) (mS M 1 + 1)) 6 (mS M 6 + 1)) r p s t = leA M r p s t := fun r p s t hr => by
    have e : ¬ r = (mN M 6) := by omega
    refine leA_cg ?_ ?_ (fun t => rfl)
    · simp [mA_pS, mA_pA, mA_pL, mL_pS, mL_pA, mL_pL, mT0, e]
    · simp [mA_pS, mA_pA, mA_pL, mL_pS, mL_pA, mL_pL, mT0, e]
  exact fun i hi => by
    have hi : i < (mN M 6) + 1 := hN ▸ hi
    by_cases e : i = (mN M 6)
    · subst e
      simp [mA_pS, mA_pA, mA_pL, mL_pS, mL_pA, mL_pL, mT0, hn6]
    · rw [(ru_o6 h6 e 7).1, R.int (f := 6) (k := 7) (m := 8) (q := 6) (by decide) (show i < (mN M 6) by omega)]
      simp [mA_pS, mA_pA, mA_pL, mL_pS, mL_pA, mL_pL, mT0, e]

set_option maxHeartbeats 4000000 in
set_option maxRecDepth 100000 in
theorem cR.rule_x68 {τ : Nat → Nat → Nat} {S : awS} {M : aM} {what how site b_ : Int32} {a : Int64} (R : cR τ S M) (hτ : ∀ s, τ (mN M 6) s = mN M 1) (hn : (mN M 6) < 16) (hg : ruleGood M what a b_ how site) : ∀ i, i < cB (pS (pA (pA (pA (pA (pA (pA (pL (pA (pA (mT0 M) 7 (mN M 6) (what - what / 100 * 100)) 8 (mN M 6) (what / 100)) 9 (mN M 6) a) 10 (mN M 6) b_) 11 (mN M 6) (how - how / 100 * 100)) 12 (mN M 6) (how / 100 - how / 100 / 100 * 100)) 13 (mN M 6) (how / 10000)) 14 (mN M 6) site) 15 (mN M 6) (mS M 1 + 1)) 6 (mS M 6 + 1)) 6 → sI (rS2 S (mN M 6) (nI (mN M 6)) what a b_ how site) 6 i 8 = mA (pS (pA (pA (pA (pA (pA (pA (pL (pA (pA (mT0 M) 7 (mN M 6) (what - what / 100 * 100)) 8 (mN M 6) (what / 100)) 9 (mN M 6) a) 10 (mN M 6) b_) 11 (mN M 6) (how - how / 100 * 100)) 12 (mN M 6) (how / 100 - how / 100 / 100 * 100)) 13 (mN M 6) (how / 10000)) 14 (mN M 6) site) 15 (mN M 6) (mS M 1 + 1)) 6 (mS M 6 + 1)) 14 i := by
  have hN : mN (pS (pA (pA (pA (pA (pA (pA (pL (pA (pA (mT0 M) 7 (mN M 6) (what - what / 100 * 100)) 8 (mN M 6) (what / 100)) 9 (mN M 6) a) 10 (mN M 6) b_) 11 (mN M 6) (how - how / 100 * 100)) 12 (mN M 6) (how / 100 - how / 100 / 100 * 100)) 13 (mN M 6) (how / 10000)) 14 (mN M 6) site) 15 (mN M 6) (mS M 1 + 1)) 6 (mS M 6 + 1)) 6 = (mN M 6) + 1 := mN_inc (mS_nI R.mI (k := 6) (b := 16) (by decide)) (by omega)
  have h6 : sC S 6 = (mN M 6) := R.cx.2.2.2.1.trans (Nat.one_mul _)
  have h18 : sC S 18 = (mN M 6) := R.cx.2.2.2.2.1.trans (Nat.one_mul _)
  have h19 : sC S 19 = (mN M 6) := R.cx.2.2.2.2.2.1.trans (Nat.one_mul _)
  have h20 : sC S 20 = (mN M 6) := R.cx.2.2.2.2.2.2.1.trans (Nat.one_mul _)
  have h21 : sC S 21 = (mN M 6) := R.cx.2.2.2.2.2.2.2.1.trans (Nat.one_mul _)
  have hc := ru_c (num := nI (mN M 6)) (what := what) (a := a) (b_ := b_) (how := how) (site := site) h6 h18 h19 h20 h21
  have hn6 := ru_n6 (S := S) (n := (mN M 6)) (num := nI (mN M 6)) (what := what) (a := a) (b_ := b_) (how := how) (site := site)
  have hw0 : ∀ s, s < 16 → (∀ t, t < 401 → mA M 16 (401 * (16 * (mN M 6) + s) + t) = 0) ∧ mA M 18 (16 * (mN M 6) + s) = 0 ∧ mA M 19 (16 * (mN M 6) + s) = 0 ∧ mA M 17 (16 * (mN M 6) + s) = -1 ∧ mA M 20 (16 * (mN M 6) + s) < 0 := fun s hs => R.inv.2.1 (mN M 6) s (Or.inl (Nat.le_refl _)) hs hn
  have hcb : mN M 1 ≤ 400 := R.nC
  have eC1 : mS M 1 + 1 = nI (mN M 1 + 1) := by rw [mS_nI R.mI (k := 1) (b := 400) (by decide)]; exact nI_1 _
  have eCm : mE (pS (pA (pA (pA (pA (pA (pA (pL (pA (pA (mT0 M) 7 (mN M 6) (what - what / 100 * 100)) 8 (mN M 6) (what / 100)) 9 (mN M 6) a) 10 (mN M 6) b_) 11 (mN M 6) (how - how / 100 * 100)) 12 (mN M 6) (how / 100 - how / 100 / 100 * 100)) 13 (mN M 6) (how / 10000)) 14 (mN M 6) site) 15 (mN M 6) (mS M 1 + 1)) 6 (mS M 6 + 1)) 15 (mN M 6) = mN M 1 + 1 := by
    unfold mE
    simp [mA_pS, mA_pA, mA_pL, mL_pS, mL_pA, mL_pL, mT0, eC1]
    exact nI_cl (by omega)
  have eT : ∀ r s t, mTru (pS (pA (pA (pA (pA (pA (pA (pL (pA (pA (mT0 M) 7 (mN M 6) (what - what / 100 * 100)) 8 (mN M 6) (what / 100)) 9 (mN M 6) a) 10 (mN M 6) b_) 11 (mN M 6) (how - how / 100 * 100)) 12 (mN M 6) (how / 100 - how / 100 / 100 * 100)) 13 (mN M 6) (how / 10000)) 14 (mN M 6) site) 15 (mN M 6) (mS M 1 + 1)) 6 (mS M 6 + 1)) r s t = mTru M r s t := fun _ _ _ => rfl
  have hA0 : ∀ p s, leA (pS (pA (pA (pA (pA (pA (pA (pL (pA (pA (mT0 M) 7 (mN M 6) (what - what / 100 * 100)) 8 (mN M 6) (what / 100)) 9 (mN M 6) a) 10 (mN M 6) b_) 11 (mN M 6) (how - how / 100 * 100)) 12 (mN M 6) (how / 100 - how / 100 / 100 * 100)) 13 (mN M 6) (how / 10000)) 14 (mN M 6) site) 15 (mN M 6) (mS M 1 + 1)) 6 (mS M 6 + 1)) (mN M 6) p s (τ (mN M 6) s) = ((0 : Int32), (0 : Int32), false, 0) := fun p s => leA_0 (by rw [eCm, hτ]; exact Nat.le_refl _)
  have hAo : ∀ r p s t, r < (mN M 6) → leA (pS (pA (pA (pA (pA (pA (pA (pL (pA (pA (mT0 M) 7 (mN M 6) (what - what / 100 * 100)) 8 (mN M 6) (what / 100)) 9 (mN M 6) a) 10 (mN M 6) b_) 11 (mN M 6) (how - how / 100 * 100)) 12 (mN M 6) (how / 100 - how / 100 / 100 * 100)) 13 (mN M 6) (how / 10000)) 14 (mN M 6) site) 15 (mN M 6) (mS M 1 + 1)) 6 (mS M 6 + 1)) r p s t = leA M r p s t := fun r p s t hr => by
    have e : ¬ r = (mN M 6) := by omega
    refine leA_cg ?_ ?_ (fun t => rfl)
    · simp [mA_pS, mA_pA, mA_pL, mL_pS, mL_pA, mL_pL, mT0, e]
    · simp [mA_pS, mA_pA, mA_pL, mL_pS, mL_pA, mL_pL, mT0, e]
  exact fun i hi => by
    have hi : i < (mN M 6) + 1 := hN ▸ hi
    by_cases e : i = (mN M 6)
    · subst e
      simp [mA_pS, mA_pA, mA_pL, mL_pS, mL_pA, mL_pL, mT0, hn6]
    · rw [(ru_o6 h6 e 8).1, R.int (f := 6) (k := 8) (m := 14) (q := 6) (by decide) (show i < (mN M 6) by omega)]
      simp [mA_pS, mA_pA, mA_pL, mL_pS, mL_pA, mL_pL, mT0, e]

set_option maxHeartbeats 4000000 in
set_option maxRecDepth 100000 in
theorem cR.rule_x111 {τ : Nat → Nat → Nat} {S : awS} {M : aM} {what how site b_ : Int32} {a : Int64} (R : cR τ S M) (hτ : ∀ s, τ (mN M 6) s = mN M 1) (hn : (mN M 6) < 16) (hg : ruleGood M what a b_ how site) : ∀ i, i < cB (pS (pA (pA (pA (pA (pA (pA (pL (pA (pA (mT0 M) 7 (mN M 6) (what - what / 100 * 100)) 8 (mN M 6) (what / 100)) 9 (mN M 6) a) 10 (mN M 6) b_) 11 (mN M 6) (how - how / 100 * 100)) 12 (mN M 6) (how / 100 - how / 100 / 100 * 100)) 13 (mN M 6) (how / 10000)) 14 (mN M 6) site) 15 (mN M 6) (mS M 1 + 1)) 6 (mS M 6 + 1)) 100 → sI (rS2 S (mN M 6) (nI (mN M 6)) what a b_ how site) 11 i 1 = mA (pS (pA (pA (pA (pA (pA (pA (pL (pA (pA (mT0 M) 7 (mN M 6) (what - what / 100 * 100)) 8 (mN M 6) (what / 100)) 9 (mN M 6) a) 10 (mN M 6) b_) 11 (mN M 6) (how - how / 100 * 100)) 12 (mN M 6) (how / 100 - how / 100 / 100 * 100)) 13 (mN M 6) (how / 10000)) 14 (mN M 6) site) 15 (mN M 6) (mS M 1 + 1)) 6 (mS M 6 + 1)) 17 i := by
  have hN : mN (pS (pA (pA (pA (pA (pA (pA (pL (pA (pA (mT0 M) 7 (mN M 6) (what - what / 100 * 100)) 8 (mN M 6) (what / 100)) 9 (mN M 6) a) 10 (mN M 6) b_) 11 (mN M 6) (how - how / 100 * 100)) 12 (mN M 6) (how / 100 - how / 100 / 100 * 100)) 13 (mN M 6) (how / 10000)) 14 (mN M 6) site) 15 (mN M 6) (mS M 1 + 1)) 6 (mS M 6 + 1)) 6 = (mN M 6) + 1 := mN_inc (mS_nI R.mI (k := 6) (b := 16) (by decide)) (by omega)
  have h6 : sC S 6 = (mN M 6) := R.cx.2.2.2.1.trans (Nat.one_mul _)
  have h18 : sC S 18 = (mN M 6) := R.cx.2.2.2.2.1.trans (Nat.one_mul _)
  have h19 : sC S 19 = (mN M 6) := R.cx.2.2.2.2.2.1.trans (Nat.one_mul _)
  have h20 : sC S 20 = (mN M 6) := R.cx.2.2.2.2.2.2.1.trans (Nat.one_mul _)
  have h21 : sC S 21 = (mN M 6) := R.cx.2.2.2.2.2.2.2.1.trans (Nat.one_mul _)
  have hc := ru_c (num := nI (mN M 6)) (what := what) (a := a) (b_ := b_) (how := how) (site := site) h6 h18 h19 h20 h21
  have hn6 := ru_n6 (S := S) (n := (mN M 6)) (num := nI (mN M 6)) (what := what) (a := a) (b_ := b_) (how := how) (site := site)
  have hw0 : ∀ s, s < 16 → (∀ t, t < 401 → mA M 16 (401 * (16 * (mN M 6) + s) + t) = 0) ∧ mA M 18 (16 * (mN M 6) + s) = 0 ∧ mA M 19 (16 * (mN M 6) + s) = 0 ∧ mA M 17 (16 * (mN M 6) + s) = -1 ∧ mA M 20 (16 * (mN M 6) + s) < 0 := fun s hs => R.inv.2.1 (mN M 6) s (Or.inl (Nat.le_refl _)) hs hn
  have hcb : mN M 1 ≤ 400 := R.nC
  have eC1 : mS M 1 + 1 = nI (mN M 1 + 1) := by rw [mS_nI R.mI (k := 1) (b := 400) (by decide)]; exact nI_1 _
  have eCm : mE (pS (pA (pA (pA (pA (pA (pA (pL (pA (pA (mT0 M) 7 (mN M 6) (what - what / 100 * 100)) 8 (mN M 6) (what / 100)) 9 (mN M 6) a) 10 (mN M 6) b_) 11 (mN M 6) (how - how / 100 * 100)) 12 (mN M 6) (how / 100 - how / 100 / 100 * 100)) 13 (mN M 6) (how / 10000)) 14 (mN M 6) site) 15 (mN M 6) (mS M 1 + 1)) 6 (mS M 6 + 1)) 15 (mN M 6) = mN M 1 + 1 := by
    unfold mE
    simp [mA_pS, mA_pA, mA_pL, mL_pS, mL_pA, mL_pL, mT0, eC1]
    exact nI_cl (by omega)
  have eT : ∀ r s t, mTru (pS (pA (pA (pA (pA (pA (pA (pL (pA (pA (mT0 M) 7 (mN M 6) (what - what / 100 * 100)) 8 (mN M 6) (what / 100)) 9 (mN M 6) a) 10 (mN M 6) b_) 11 (mN M 6) (how - how / 100 * 100)) 12 (mN M 6) (how / 100 - how / 100 / 100 * 100)) 13 (mN M 6) (how / 10000)) 14 (mN M 6) site) 15 (mN M 6) (mS M 1 + 1)) 6 (mS M 6 + 1)) r s t = mTru M r s t := fun _ _ _ => rfl
  have hA0 : ∀ p s, leA (pS (pA (pA (pA (pA (pA (pA (pL (pA (pA (mT0 M) 7 (mN M 6) (what - what / 100 * 100)) 8 (mN M 6) (what / 100)) 9 (mN M 6) a) 10 (mN M 6) b_) 11 (mN M 6) (how - how / 100 * 100)) 12 (mN M 6) (how / 100 - how / 100 / 100 * 100)) 13 (mN M 6) (how / 10000)) 14 (mN M 6) site) 15 (mN M 6) (mS M 1 + 1)) 6 (mS M 6 + 1)) (mN M 6) p s (τ (mN M 6) s) = ((0 : Int32), (0 : Int32), false, 0) := fun p s => leA_0 (by rw [eCm, hτ]; exact Nat.le_refl _)
  have hAo : ∀ r p s t, r < (mN M 6) → leA (pS (pA (pA (pA (pA (pA (pA (pL (pA (pA (mT0 M) 7 (mN M 6) (what - what / 100 * 100)) 8 (mN M 6) (what / 100)) 9 (mN M 6) a) 10 (mN M 6) b_) 11 (mN M 6) (how - how / 100 * 100)) 12 (mN M 6) (how / 100 - how / 100 / 100 * 100)) 13 (mN M 6) (how / 10000)) 14 (mN M 6) site) 15 (mN M 6) (mS M 1 + 1)) 6 (mS M 6 + 1)) r p s t = leA M r p s t := fun r p s t hr => by
    have e : ¬ r = (mN M 6) := by omega
    refine leA_cg ?_ ?_ (fun t => rfl)
    · simp [mA_pS, mA_pA, mA_pL, mL_pS, mL_pA, mL_pL, mT0, e]
    · simp [mA_pS, mA_pA, mA_pL, mL_pS, mL_pA, mL_pL, mT0, e]
  exact fun i hi => by
    have hi : i < 16 * ((mN M 6) + 1) := hN ▸ hi
    by_cases e : i < 16 * (mN M 6)
    · rw [(ru_ow e 1).1, R.int (f := 11) (k := 1) (m := 17) (q := 100) (by decide) e]
      rfl
    · obtain ⟨s, hs, rfl⟩ : ∃ s, s < 16 ∧ i = 16 * (mN M 6) + s := ⟨i - 16 * (mN M 6), by omega, by omega⟩
      rw [(ru_nw hs).2.1]
      exact (hw0 s hs).2.2.2.1.symm

set_option maxHeartbeats 4000000 in
set_option maxRecDepth 100000 in
theorem cR.rule_x112 {τ : Nat → Nat → Nat} {S : awS} {M : aM} {what how site b_ : Int32} {a : Int64} (R : cR τ S M) (hτ : ∀ s, τ (mN M 6) s = mN M 1) (hn : (mN M 6) < 16) (hg : ruleGood M what a b_ how site) : ∀ i, i < cB (pS (pA (pA (pA (pA (pA (pA (pL (pA (pA (mT0 M) 7 (mN M 6) (what - what / 100 * 100)) 8 (mN M 6) (what / 100)) 9 (mN M 6) a) 10 (mN M 6) b_) 11 (mN M 6) (how - how / 100 * 100)) 12 (mN M 6) (how / 100 - how / 100 / 100 * 100)) 13 (mN M 6) (how / 10000)) 14 (mN M 6) site) 15 (mN M 6) (mS M 1 + 1)) 6 (mS M 6 + 1)) 100 → sI (rS2 S (mN M 6) (nI (mN M 6)) what a b_ how site) 11 i 2 = mA (pS (pA (pA (pA (pA (pA (pA (pL (pA (pA (mT0 M) 7 (mN M 6) (what - what / 100 * 100)) 8 (mN M 6) (what / 100)) 9 (mN M 6) a) 10 (mN M 6) b_) 11 (mN M 6) (how - how / 100 * 100)) 12 (mN M 6) (how / 100 - how / 100 / 100 * 100)) 13 (mN M 6) (how / 10000)) 14 (mN M 6) site) 15 (mN M 6) (mS M 1 + 1)) 6 (mS M 6 + 1)) 18 i := by
  have hN : mN (pS (pA (pA (pA (pA (pA (pA (pL (pA (pA (mT0 M) 7 (mN M 6) (what - what / 100 * 100)) 8 (mN M 6) (what / 100)) 9 (mN M 6) a) 10 (mN M 6) b_) 11 (mN M 6) (how - how / 100 * 100)) 12 (mN M 6) (how / 100 - how / 100 / 100 * 100)) 13 (mN M 6) (how / 10000)) 14 (mN M 6) site) 15 (mN M 6) (mS M 1 + 1)) 6 (mS M 6 + 1)) 6 = (mN M 6) + 1 := mN_inc (mS_nI R.mI (k := 6) (b := 16) (by decide)) (by omega)
  have h6 : sC S 6 = (mN M 6) := R.cx.2.2.2.1.trans (Nat.one_mul _)
  have h18 : sC S 18 = (mN M 6) := R.cx.2.2.2.2.1.trans (Nat.one_mul _)
  have h19 : sC S 19 = (mN M 6) := R.cx.2.2.2.2.2.1.trans (Nat.one_mul _)
  have h20 : sC S 20 = (mN M 6) := R.cx.2.2.2.2.2.2.1.trans (Nat.one_mul _)
  have h21 : sC S 21 = (mN M 6) := R.cx.2.2.2.2.2.2.2.1.trans (Nat.one_mul _)
  have hc := ru_c (num := nI (mN M 6)) (what := what) (a := a) (b_ := b_) (how := how) (site := site) h6 h18 h19 h20 h21
  have hn6 := ru_n6 (S := S) (n := (mN M 6)) (num := nI (mN M 6)) (what := what) (a := a) (b_ := b_) (how := how) (site := site)
  have hw0 : ∀ s, s < 16 → (∀ t, t < 401 → mA M 16 (401 * (16 * (mN M 6) + s) + t) = 0) ∧ mA M 18 (16 * (mN M 6) + s) = 0 ∧ mA M 19 (16 * (mN M 6) + s) = 0 ∧ mA M 17 (16 * (mN M 6) + s) = -1 ∧ mA M 20 (16 * (mN M 6) + s) < 0 := fun s hs => R.inv.2.1 (mN M 6) s (Or.inl (Nat.le_refl _)) hs hn
  have hcb : mN M 1 ≤ 400 := R.nC
  have eC1 : mS M 1 + 1 = nI (mN M 1 + 1) := by rw [mS_nI R.mI (k := 1) (b := 400) (by decide)]; exact nI_1 _
  have eCm : mE (pS (pA (pA (pA (pA (pA (pA (pL (pA (pA (mT0 M) 7 (mN M 6) (what - what / 100 * 100)) 8 (mN M 6) (what / 100)) 9 (mN M 6) a) 10 (mN M 6) b_) 11 (mN M 6) (how - how / 100 * 100)) 12 (mN M 6) (how / 100 - how / 100 / 100 * 100)) 13 (mN M 6) (how / 10000)) 14 (mN M 6) site) 15 (mN M 6) (mS M 1 + 1)) 6 (mS M 6 + 1)) 15 (mN M 6) = mN M 1 + 1 := by
    unfold mE
    simp [mA_pS, mA_pA, mA_pL, mL_pS, mL_pA, mL_pL, mT0, eC1]
    exact nI_cl (by omega)
  have eT : ∀ r s t, mTru (pS (pA (pA (pA (pA (pA (pA (pL (pA (pA (mT0 M) 7 (mN M 6) (what - what / 100 * 100)) 8 (mN M 6) (what / 100)) 9 (mN M 6) a) 10 (mN M 6) b_) 11 (mN M 6) (how - how / 100 * 100)) 12 (mN M 6) (how / 100 - how / 100 / 100 * 100)) 13 (mN M 6) (how / 10000)) 14 (mN M 6) site) 15 (mN M 6) (mS M 1 + 1)) 6 (mS M 6 + 1)) r s t = mTru M r s t := fun _ _ _ => rfl
  have hA0 : ∀ p s, leA (pS (pA (pA (pA (pA (pA (pA (pL (pA (pA (mT0 M) 7 (mN M 6) (what - what / 100 * 100)) 8 (mN M 6) (what / 100)) 9 (mN M 6) a) 10 (mN M 6) b_) 11 (mN M 6) (how - how / 100 * 100)) 12 (mN M 6) (how / 100 - how / 100 / 100 * 100)) 13 (mN M 6) (how / 10000)) 14 (mN M 6) site) 15 (mN M 6) (mS M 1 + 1)) 6 (mS M 6 + 1)) (mN M 6) p s (τ (mN M 6) s) = ((0 : Int32), (0 : Int32), false, 0) := fun p s => leA_0 (by rw [eCm, hτ]; exact Nat.le_refl _)
  have hAo : ∀ r p s t, r < (mN M 6) → leA (pS (pA (pA (pA (pA (pA (pA (pL (pA (pA (mT0 M) 7 (mN M 6) (what - what / 100 * 100)) 8 (mN M 6) (what / 100)) 9 (mN M 6) a) 10 (mN M 6) b_) 11 (mN M 6) (how - how / 100 * 100)) 12 (mN M 6) (how / 100 - how / 100 / 100 * 100)) 13 (mN M 6) (how / 10000)) 14 (mN M 6) site) 15 (mN M 6) (mS M 1 + 1)) 6 (mS M 6 + 1)) r p s t = leA M r p s t := fun r p s t hr => by
    have e : ¬ r = (mN M 6) := by omega
    refine leA_cg ?_ ?_ (fun t => rfl)
    · simp [mA_pS, mA_pA, mA_pL, mL_pS, mL_pA, mL_pL, mT0, e]
    · simp [mA_pS, mA_pA, mA_pL, mL_pS, mL_pA, mL_pL, mT0, e]
  exact fun i hi => by
    have hi : i < 16 * ((mN M 6) + 1) := hN ▸ hi
    by_cases e : i < 16 * (mN M 6)
    · rw [(ru_ow e 2).1, R.int (f := 11) (k := 2) (m := 18) (q := 100) (by decide) e]
      rfl
    · obtain ⟨s, hs, rfl⟩ : ∃ s, s < 16 ∧ i = 16 * (mN M 6) + s := ⟨i - 16 * (mN M 6), by omega, by omega⟩
      rw [(ru_nw hs).2.2.1]
      exact (hw0 s hs).2.1.symm

set_option maxHeartbeats 4000000 in
set_option maxRecDepth 100000 in
theorem cR.rule_x113 {τ : Nat → Nat → Nat} {S : awS} {M : aM} {what how site b_ : Int32} {a : Int64} (R : cR τ S M) (hτ : ∀ s, τ (mN M 6) s = mN M 1) (hn : (mN M 6) < 16) (hg : ruleGood M what a b_ how site) : ∀ i, i < cB (pS (pA (pA (pA (pA (pA (pA (pL (pA (pA (mT0 M) 7 (mN M 6) (what - what / 100 * 100)) 8 (mN M 6) (what / 100)) 9 (mN M 6) a) 10 (mN M 6) b_) 11 (mN M 6) (how - how / 100 * 100)) 12 (mN M 6) (how / 100 - how / 100 / 100 * 100)) 13 (mN M 6) (how / 10000)) 14 (mN M 6) site) 15 (mN M 6) (mS M 1 + 1)) 6 (mS M 6 + 1)) 100 → sI (rS2 S (mN M 6) (nI (mN M 6)) what a b_ how site) 11 i 3 = mA (pS (pA (pA (pA (pA (pA (pA (pL (pA (pA (mT0 M) 7 (mN M 6) (what - what / 100 * 100)) 8 (mN M 6) (what / 100)) 9 (mN M 6) a) 10 (mN M 6) b_) 11 (mN M 6) (how - how / 100 * 100)) 12 (mN M 6) (how / 100 - how / 100 / 100 * 100)) 13 (mN M 6) (how / 10000)) 14 (mN M 6) site) 15 (mN M 6) (mS M 1 + 1)) 6 (mS M 6 + 1)) 19 i := by
  have hN : mN (pS (pA (pA (pA (pA (pA (pA (pL (pA (pA (mT0 M) 7 (mN M 6) (what - what / 100 * 100)) 8 (mN M 6) (what / 100)) 9 (mN M 6) a) 10 (mN M 6) b_) 11 (mN M 6) (how - how / 100 * 100)) 12 (mN M 6) (how / 100 - how / 100 / 100 * 100)) 13 (mN M 6) (how / 10000)) 14 (mN M 6) site) 15 (mN M 6) (mS M 1 + 1)) 6 (mS M 6 + 1)) 6 = (mN M 6) + 1 := mN_inc (mS_nI R.mI (k := 6) (b := 16) (by decide)) (by omega)
  have h6 : sC S 6 = (mN M 6) := R.cx.2.2.2.1.trans (Nat.one_mul _)
  have h18 : sC S 18 = (mN M 6) := R.cx.2.2.2.2.1.trans (Nat.one_mul _)
  have h19 : sC S 19 = (mN M 6) := R.cx.2.2.2.2.2.1.trans (Nat.one_mul _)
  have h20 : sC S 20 = (mN M 6) := R.cx.2.2.2.2.2.2.1.trans (Nat.one_mul _)
  have h21 : sC S 21 = (mN M 6) := R.cx.2.2.2.2.2.2.2.1.trans (Nat.one_mul _)
  have hc := ru_c (num := nI (mN M 6)) (what := what) (a := a) (b_ := b_) (how := how) (site := site) h6 h18 h19 h20 h21
  have hn6 := ru_n6 (S := S) (n := (mN M 6)) (num := nI (mN M 6)) (what := what) (a := a) (b_ := b_) (how := how) (site := site)
  have hw0 : ∀ s, s < 16 → (∀ t, t < 401 → mA M 16 (401 * (16 * (mN M 6) + s) + t) = 0) ∧ mA M 18 (16 * (mN M 6) + s) = 0 ∧ mA M 19 (16 * (mN M 6) + s) = 0 ∧ mA M 17 (16 * (mN M 6) + s) = -1 ∧ mA M 20 (16 * (mN M 6) + s) < 0 := fun s hs => R.inv.2.1 (mN M 6) s (Or.inl (Nat.le_refl _)) hs hn
  have hcb : mN M 1 ≤ 400 := R.nC
  have eC1 : mS M 1 + 1 = nI (mN M 1 + 1) := by rw [mS_nI R.mI (k := 1) (b := 400) (by decide)]; exact nI_1 _
  have eCm : mE (pS (pA (pA (pA (pA (pA (pA (pL (pA (pA (mT0 M) 7 (mN M 6) (what - what / 100 * 100)) 8 (mN M 6) (what / 100)) 9 (mN M 6) a) 10 (mN M 6) b_) 11 (mN M 6) (how - how / 100 * 100)) 12 (mN M 6) (how / 100 - how / 100 / 100 * 100)) 13 (mN M 6) (how / 10000)) 14 (mN M 6) site) 15 (mN M 6) (mS M 1 + 1)) 6 (mS M 6 + 1)) 15 (mN M 6) = mN M 1 + 1 := by
    unfold mE
    simp [mA_pS, mA_pA, mA_pL, mL_pS, mL_pA, mL_pL, mT0, eC1]
    exact nI_cl (by omega)
  have eT : ∀ r s t, mTru (pS (pA (pA (pA (pA (pA (pA (pL (pA (pA (mT0 M) 7 (mN M 6) (what - what / 100 * 100)) 8 (mN M 6) (what / 100)) 9 (mN M 6) a) 10 (mN M 6) b_) 11 (mN M 6) (how - how / 100 * 100)) 12 (mN M 6) (how / 100 - how / 100 / 100 * 100)) 13 (mN M 6) (how / 10000)) 14 (mN M 6) site) 15 (mN M 6) (mS M 1 + 1)) 6 (mS M 6 + 1)) r s t = mTru M r s t := fun _ _ _ => rfl
  have hA0 : ∀ p s, leA (pS (pA (pA (pA (pA (pA (pA (pL (pA (pA (mT0 M) 7 (mN M 6) (what - what / 100 * 100)) 8 (mN M 6) (what / 100)) 9 (mN M 6) a) 10 (mN M 6) b_) 11 (mN M 6) (how - how / 100 * 100)) 12 (mN M 6) (how / 100 - how / 100 / 100 * 100)) 13 (mN M 6) (how / 10000)) 14 (mN M 6) site) 15 (mN M 6) (mS M 1 + 1)) 6 (mS M 6 + 1)) (mN M 6) p s (τ (mN M 6) s) = ((0 : Int32), (0 : Int32), false, 0) := fun p s => leA_0 (by rw [eCm, hτ]; exact Nat.le_refl _)
  have hAo : ∀ r p s t, r < (mN M 6) → leA (pS (pA (pA (pA (pA (pA (pA (pL (pA (pA (mT0 M) 7 (mN M 6) (what - what / 100 * 100)) 8 (mN M 6) (what / 100)) 9 (mN M 6) a) 10 (mN M 6) b_) 11 (mN M 6) (how - how / 100 * 100)) 12 (mN M 6) (how / 100 - how / 100 / 100 * 100)) 13 (mN M 6) (how / 10000)) 14 (mN M 6) site) 15 (mN M 6) (mS M 1 + 1)) 6 (mS M 6 + 1)) r p s t = leA M r p s t := fun r p s t hr => by
    have e : ¬ r = (mN M 6) := by omega
    refine leA_cg ?_ ?_ (fun t => rfl)
    · simp [mA_pS, mA_pA, mA_pL, mL_pS, mL_pA, mL_pL, mT0, e]
    · simp [mA_pS, mA_pA, mA_pL, mL_pS, mL_pA, mL_pL, mT0, e]
  exact fun i hi => by
    have hi : i < 16 * ((mN M 6) + 1) := hN ▸ hi
    by_cases e : i < 16 * (mN M 6)
    · rw [(ru_ow e 3).1, R.int (f := 11) (k := 3) (m := 19) (q := 100) (by decide) e]
      rfl
    · obtain ⟨s, hs, rfl⟩ : ∃ s, s < 16 ∧ i = 16 * (mN M 6) + s := ⟨i - 16 * (mN M 6), by omega, by omega⟩
      rw [(ru_nw hs).2.2.2.1]
      exact (hw0 s hs).2.2.1.symm

set_option maxHeartbeats 4000000 in
set_option maxRecDepth 100000 in
theorem cR.rule_xo {τ : Nat → Nat → Nat} {S : awS} {M : aM} {what how site b_ : Int32} {a : Int64} (R : cR τ S M) (hτ : ∀ s, τ (mN M 6) s = mN M 1) (hn : (mN M 6) < 16) (hg : ruleGood M what a b_ how site) (q : Nat × Nat × Nat × Nat) (hq : q ∈ cLk) (c : (¬ q.1 = 6 ∧ ¬ q.1 = 11 ∧ ¬ q.1 = 18 ∧ ¬ q.1 = 19 ∧ ¬ q.1 = 20 ∧ ¬ q.1 = 21 ∧ ¬ q.1 = 22) ∧ ¬ (7 ≤ q.2.2.1 ∧ q.2.2.1 ≤ 15) ∧ ¬ q.2.2.2 = 6 ∧ ¬ q.2.2.2 = 100) : ∀ i, i < cB (pS (pA (pA (pA (pA (pA (pA (pL (pA (pA (mT0 M) 7 (mN M 6) (what - what / 100 * 100)) 8 (mN M 6) (what / 100)) 9 (mN M 6) a) 10 (mN M 6) b_) 11 (mN M 6) (how - how / 100 * 100)) 12 (mN M 6) (how / 100 - how / 100 / 100 * 100)) 13 (mN M 6) (how / 10000)) 14 (mN M 6) site) 15 (mN M 6) (mS M 1 + 1)) 6 (mS M 6 + 1)) q.2.2.2 → sI (rS2 S (mN M 6) (nI (mN M 6)) what a b_ how site) q.1 i q.2.1 = mA (pS (pA (pA (pA (pA (pA (pA (pL (pA (pA (mT0 M) 7 (mN M 6) (what - what / 100 * 100)) 8 (mN M 6) (what / 100)) 9 (mN M 6) a) 10 (mN M 6) b_) 11 (mN M 6) (how - how / 100 * 100)) 12 (mN M 6) (how / 100 - how / 100 / 100 * 100)) 13 (mN M 6) (how / 10000)) 14 (mN M 6) site) 15 (mN M 6) (mS M 1 + 1)) 6 (mS M 6 + 1)) q.2.2.1 i := by
  intro i hi
  rw [ru_oI c.1 i q.2.1, ru_mA c.2.1 i]
  refine R.2.2.2.2.2.2.2.2.2.1 q hq i ?_
  have e : cB (pS (pA (pA (pA (pA (pA (pA (pL (pA (pA (mT0 M) 7 (mN M 6) (what - what / 100 * 100)) 8 (mN M 6) (what / 100)) 9 (mN M 6) a) 10 (mN M 6) b_) 11 (mN M 6) (how - how / 100 * 100)) 12 (mN M 6) (how / 100 - how / 100 / 100 * 100)) 13 (mN M 6) (how / 10000)) 14 (mN M 6) site) 15 (mN M 6) (mS M 1 + 1)) 6 (mS M 6 + 1)) q.2.2.2 = cB M q.2.2.2 := by
    unfold cB
    rw [if_neg c.2.2.2, if_neg c.2.2.2]
    by_cases z : q.2.2.2 = 101
    · rw [if_pos z, if_pos z]
    · rw [if_neg z, if_neg z]
      unfold mN
      rw [mS_pS, if_neg c.2.2.1]
      show (mS (mT0 M) q.2.2.2).toNatClampNeg = _
      unfold mT0
      rw [mS_pS, if_neg (cLk_0 q hq)]
  rw [← e]
  exact hi
theorem cR.rule_ix {τ : Nat → Nat → Nat} {S : awS} {M : aM} {what how site b_ : Int32} {a : Int64} (R : cR τ S M) (hτ : ∀ s, τ (mN M 6) s = mN M 1) (hn : (mN M 6) < 16) (hg : ruleGood M what a b_ how site) : cIntX (rS2 S (mN M 6) (nI (mN M 6)) what a b_ how site) (pS (pA (pA (pA (pA (pA (pA (pL (pA (pA (mT0 M) 7 (mN M 6) (what - what / 100 * 100)) 8 (mN M 6) (what / 100)) 9 (mN M 6) a) 10 (mN M 6) b_) 11 (mN M 6) (how - how / 100 * 100)) 12 (mN M 6) (how / 100 - how / 100 / 100 * 100)) 13 (mN M 6) (how / 10000)) 14 (mN M 6) site) 15 (mN M 6) (mS M 1 + 1)) 6 (mS M 6 + 1)) := by
  refine cInt_x.mp (fun q hq => ?_)
  rcases cLk_k q hq with c | c | c
  · rcases cLk_6 q hq c with rfl | rfl | rfl | rfl | rfl | rfl | rfl
    · exact R.rule_x61 hτ hn hg
    · exact R.rule_x63 hτ hn hg
    · exact R.rule_x64 hτ hn hg
    · exact R.rule_x65 hτ hn hg
    · exact R.rule_x66 hτ hn hg
    · exact R.rule_x67 hτ hn hg
    · exact R.rule_x68 hτ hn hg
  · rcases cLk_11 q hq c with rfl | rfl | rfl
    · exact R.rule_x111 hτ hn hg
    · exact R.rule_x112 hτ hn hg
    · exact R.rule_x113 hτ hn hg
  · exact R.rule_xo hτ hn hg q hq c

set_option maxHeartbeats 4000000 in
set_option maxRecDepth 100000 in
theorem cR.rule {τ : Nat → Nat → Nat} {S : awS} {M : aM} {what how site b_ : Int32} {a : Int64} (R : cR τ S M) (hτ : ∀ s, τ (mN M 6) s = mN M 1) (hn : (mN M 6) < 16) (hg : ruleGood M what a b_ how site) : cR τ (rS2 S (mN M 6) (nI (mN M 6)) what a b_ how site) (pS (pA (pA (pA (pA (pA (pA (pL (pA (pA (mT0 M) 7 (mN M 6) (what - what / 100 * 100)) 8 (mN M 6) (what / 100)) 9 (mN M 6) a) 10 (mN M 6) b_) 11 (mN M 6) (how - how / 100 * 100)) 12 (mN M 6) (how / 100 - how / 100 / 100 * 100)) 13 (mN M 6) (how / 10000)) 14 (mN M 6) site) 15 (mN M 6) (mS M 1 + 1)) 6 (mS M 6 + 1)) := by
  have hN : mN (pS (pA (pA (pA (pA (pA (pA (pL (pA (pA (mT0 M) 7 (mN M 6) (what - what / 100 * 100)) 8 (mN M 6) (what / 100)) 9 (mN M 6) a) 10 (mN M 6) b_) 11 (mN M 6) (how - how / 100 * 100)) 12 (mN M 6) (how / 100 - how / 100 / 100 * 100)) 13 (mN M 6) (how / 10000)) 14 (mN M 6) site) 15 (mN M 6) (mS M 1 + 1)) 6 (mS M 6 + 1)) 6 = (mN M 6) + 1 := mN_inc (mS_nI R.mI (k := 6) (b := 16) (by decide)) (by omega)
  have h6 : sC S 6 = (mN M 6) := R.cx.2.2.2.1.trans (Nat.one_mul _)
  have h18 : sC S 18 = (mN M 6) := R.cx.2.2.2.2.1.trans (Nat.one_mul _)
  have h19 : sC S 19 = (mN M 6) := R.cx.2.2.2.2.2.1.trans (Nat.one_mul _)
  have h20 : sC S 20 = (mN M 6) := R.cx.2.2.2.2.2.2.1.trans (Nat.one_mul _)
  have h21 : sC S 21 = (mN M 6) := R.cx.2.2.2.2.2.2.2.1.trans (Nat.one_mul _)
  have hc := ru_c (num := nI (mN M 6)) (what := what) (a := a) (b_ := b_) (how := how) (site := site) h6 h18 h19 h20 h21
  have hn6 := ru_n6 (S := S) (n := (mN M 6)) (num := nI (mN M 6)) (what := what) (a := a) (b_ := b_) (how := how) (site := site)
  have hw0 : ∀ s, s < 16 → (∀ t, t < 401 → mA M 16 (401 * (16 * (mN M 6) + s) + t) = 0) ∧ mA M 18 (16 * (mN M 6) + s) = 0 ∧ mA M 19 (16 * (mN M 6) + s) = 0 ∧ mA M 17 (16 * (mN M 6) + s) = -1 ∧ mA M 20 (16 * (mN M 6) + s) < 0 := fun s hs => R.inv.2.1 (mN M 6) s (Or.inl (Nat.le_refl _)) hs hn
  have hcb : mN M 1 ≤ 400 := R.nC
  have eC1 : mS M 1 + 1 = nI (mN M 1 + 1) := by rw [mS_nI R.mI (k := 1) (b := 400) (by decide)]; exact nI_1 _
  have eCm : mE (pS (pA (pA (pA (pA (pA (pA (pL (pA (pA (mT0 M) 7 (mN M 6) (what - what / 100 * 100)) 8 (mN M 6) (what / 100)) 9 (mN M 6) a) 10 (mN M 6) b_) 11 (mN M 6) (how - how / 100 * 100)) 12 (mN M 6) (how / 100 - how / 100 / 100 * 100)) 13 (mN M 6) (how / 10000)) 14 (mN M 6) site) 15 (mN M 6) (mS M 1 + 1)) 6 (mS M 6 + 1)) 15 (mN M 6) = mN M 1 + 1 := by
    unfold mE
    simp [mA_pS, mA_pA, mA_pL, mL_pS, mL_pA, mL_pL, mT0, eC1]
    exact nI_cl (by omega)
  have eT : ∀ r s t, mTru (pS (pA (pA (pA (pA (pA (pA (pL (pA (pA (mT0 M) 7 (mN M 6) (what - what / 100 * 100)) 8 (mN M 6) (what / 100)) 9 (mN M 6) a) 10 (mN M 6) b_) 11 (mN M 6) (how - how / 100 * 100)) 12 (mN M 6) (how / 100 - how / 100 / 100 * 100)) 13 (mN M 6) (how / 10000)) 14 (mN M 6) site) 15 (mN M 6) (mS M 1 + 1)) 6 (mS M 6 + 1)) r s t = mTru M r s t := fun _ _ _ => rfl
  have hA0 : ∀ p s, leA (pS (pA (pA (pA (pA (pA (pA (pL (pA (pA (mT0 M) 7 (mN M 6) (what - what / 100 * 100)) 8 (mN M 6) (what / 100)) 9 (mN M 6) a) 10 (mN M 6) b_) 11 (mN M 6) (how - how / 100 * 100)) 12 (mN M 6) (how / 100 - how / 100 / 100 * 100)) 13 (mN M 6) (how / 10000)) 14 (mN M 6) site) 15 (mN M 6) (mS M 1 + 1)) 6 (mS M 6 + 1)) (mN M 6) p s (τ (mN M 6) s) = ((0 : Int32), (0 : Int32), false, 0) := fun p s => leA_0 (by rw [eCm, hτ]; exact Nat.le_refl _)
  have hAo : ∀ r p s t, r < (mN M 6) → leA (pS (pA (pA (pA (pA (pA (pA (pL (pA (pA (mT0 M) 7 (mN M 6) (what - what / 100 * 100)) 8 (mN M 6) (what / 100)) 9 (mN M 6) a) 10 (mN M 6) b_) 11 (mN M 6) (how - how / 100 * 100)) 12 (mN M 6) (how / 100 - how / 100 / 100 * 100)) 13 (mN M 6) (how / 10000)) 14 (mN M 6) site) 15 (mN M 6) (mS M 1 + 1)) 6 (mS M 6 + 1)) r p s t = leA M r p s t := fun r p s t hr => by
    have e : ¬ r = (mN M 6) := by omega
    refine leA_cg ?_ ?_ (fun t => rfl)
    · simp [mA_pS, mA_pA, mA_pL, mL_pS, mL_pA, mL_pL, mT0, e]
    · simp [mA_pS, mA_pA, mA_pL, mL_pS, mL_pA, mL_pL, mT0, e]
  exact cR.mk' (R.mI.rule hn hg) (R.tow.cg (fun _ => rfl) (fun _ => rfl) rfl rfl rfl (fun q hq => ru_co (by omega))) (⟨R.lst.1, by show (((mN M 6) + 1, elU (nm 6) (mN M 6) (nm 6 (mN M 6))) : Nat × (Nat → Nat)) = _; rw [hN, elU_nm], R.lst.2.2⟩) (⟨R.cx.1, R.cx.2.1, R.cx.2.2.1, by rw [hN, hc.1]; omega, by rw [hN, hc.2.1]; omega, by rw [hN, hc.2.2.1]; omega, by rw [hN, hc.2.2.2.1]; omega, by rw [hN, hc.2.2.2.2.1]; omega, by rw [hN, hc.2.2.2.2.2.1]; omega, by rw [hN, hc.2.2.2.2.2.2]; omega, R.cx.2.2.2.2.2.2.2.2.2.2.1, R.cx.2.2.2.2.2.2.2.2.2.2.2.1, R.cx.2.2.2.2.2.2.2.2.2.2.2.2.1, R.cx.2.2.2.2.2.2.2.2.2.2.2.2.2.1, R.cx.2.2.2.2.2.2.2.2.2.2.2.2.2.2.1, R.cx.2.2.2.2.2.2.2.2.2.2.2.2.2.2.2⟩) R.cnt.2.1 R.cnt.2.2 R.src (R.rule_rul hτ hn hg) R.ala R.ltr R.brd (R.rule_ix hτ hn hg) (R.rule_la hτ hn hg) R.sca R.val R.ref (R.rule_wat hτ hn hg) R.flg (R.rule_tru hτ hn hg) (R.rule_hld hτ hn hg) (R.rule_lea hτ hn hg) R.row R.bdr (R.rule_inv hτ hn hg)

