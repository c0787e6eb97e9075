theorem mIa_k : ∀ q ∈ mIa, q.1 = 7 → q.2.2 = 7 := by decide
theorem mIa_n : ∀ q ∈ mIa, ¬ q.1 = 8 ∧ ¬ q.1 = 10 := by decide
set_option maxHeartbeats 1000000 in
theorem mI.rule4 {M : aM} (h : mI M) {i : Nat} {k w b_ : Int32} {a : Int64} (hk : k = nI (nN k) ∧ nN k < 7) (h6 : k = 6 → (a.toInt32 = nI (nN a.toInt32) ∧ nN a.toInt32 < 16) ∧ (b_ = nI (nN b_) ∧ nN b_ < 16)) (hw : ¬ k = 0 → ¬ k = 1 → ¬ k = 6 → w = nI (nN w) ∧ nN w ≤ 20) : mI (pA (pL (pA (pA M 7 i k) 8 i w) 9 i a) 10 i b_) := by
  refine ⟨h.1, fun q hq => ?_, h.2.2.1, h.2.2.2.1, fun r hr => ?_, h.2.2.2.2.2⟩
  · have e2 := mIa_n q hq
    refine rgA_pA (M := pL (pA (pA M 7 i k) 8 i w) 9 i a) ?_ (fun z => absurd z e2.2)
    show rgA (pA (pA M 7 i k) 8 i w) q.1 q.2.1 q.2.2
    exact rgA_pA (rgA_pA (h.2.1 q hq) (fun z => by rw [mIa_k q hq z]; exact hk)) (fun z => absurd z e2.1)
  · have q := h.i6 hr
    unfold mI6 mE at q ⊢
    by_cases e : r = i
    · subst e
      simp [mA_pA, mA_pL, mL_pA, mL_pL]
      exact ⟨h6, hw⟩
    · simp [mA_pA, mA_pL, mL_pA, mL_pL, e]
      exact q
theorem lt64_32 {x : Int64} {n : Nat} (hn : n ≤ 16) (h0 : 0 ≤ x) (h1 : x < (nI n).toInt64) : x.toInt32 = nI (nN x.toInt32) ∧ nN x.toInt32 < n := by
  rw [Int64.lt_iff_toInt_lt, Int32.toInt_toInt64, nI_toInt (by omega)] at h1
  rw [Int64.le_iff_toInt_le] at h0
  have e0 : (0 : Int64).toInt = 0 := by decide
  have e1 : x.toInt32.toInt = x.toInt := by
    rw [Int64.toInt_toInt32]
    exact Int.bmod_eq_of_le (by omega) (by omega)
  refine rg_of (n := n) ?_ ?_ (by omega)
  · rw [Int32.le_iff_toInt_le, e1]
    have e2 : (0 : Int32).toInt = 0 := by decide
    omega
  · rw [Int32.lt_iff_toInt_lt, e1, nI_toInt (by omega)]
    exact h1
theorem ruG {M : aM} {what how site b_ : Int32} {a : Int64} (hI : mI M) (hg : ruleGood M what a b_ how site) : ((what - what / 100 * 100) = nI (nN (what - what / 100 * 100)) ∧ nN (what - what / 100 * 100) < 7) ∧ ((what - what / 100 * 100) = 6 → (a.toInt32 = nI (nN a.toInt32) ∧ nN a.toInt32 < (mN M 6)) ∧ (b_ = nI (nN b_) ∧ nN b_ < (mN M 6))) ∧ (¬ (what - what / 100 * 100) = 0 → ¬ (what - what / 100 * 100) = 1 → ¬ (what - what / 100 * 100) = 6 → (what / 100) = nI (nN (what / 100)) ∧ nN (what / 100) ≤ 20) := by
  obtain ⟨g0, g1, g2, g3, g4, g5, g6, g7, g8, g9⟩ := hg
  have eR : mS M 6 = nI (mN M 6) := mS_nI hI (k := 6) (b := 16) (by decide)
  have hn : (mN M 6) ≤ 16 := mS_b hI (by decide)
  have hk := rg_of (n := 7) g1.1 (Int32.lt_of_le_of_lt g1.2 (by decide)) (by decide)
  refine ⟨hk, fun z => ?_, fun z0 z1 z6 => ?_⟩
  · have w := g9.resolve_left (fun q => q z)
    rw [eR] at w
    exact ⟨lt64_32 hn w.1.1 ((lt_pred64 (by omega)).mpr w.1.2), rg_lt w.2.1 w.2.2 eR (by omega)⟩
  · have w : 1 ≤ (what / 100) ∧ (what / 100) ≤ 20 := by
      rcases g2 with q | q | q
      · have q2 : nN (what - what / 100 * 100) < 2 := by rw [hk.1] at q; exact nI_slt (b := 2) q (by omega)
        rcases (by omega : nN (what - what / 100 * 100) = 0 ∨ nN (what - what / 100 * 100) = 1) with c | c
        · rw [c] at hk; exact absurd hk.1 z0
        · rw [c] at hk; exact absurd hk.1 z1
      · have q2 : 5 < nN (what - what / 100 * 100) := by rw [hk.1] at q; exact nI_slt (a := 5) q (by decide)
        have c : nN (what - what / 100 * 100) = 6 := by omega
        rw [c] at hk; exact absurd hk.1 z6
      · exact q
    have w2 := rg_of (n := 21) (Int32.le_trans (by decide) w.1) (Int32.lt_of_le_of_lt w.2 (by decide)) (by decide)
    exact ⟨w2.1, by omega⟩
theorem mI.rule {M : aM} {what how site b_ : Int32} {a : Int64} (h : mI M) (hn : (mN M 6) < 16) (hg : ruleGood M what a b_ how site) : mI (pS (pA (pA (pA (pA (pA (pA (pL (pA (pA (mT0 M) 7 (mN M 6) (what - what / 100 * 100)) 8 (mN M 6) (what / 100)) 9 (mN M 6) a) 10 (mN M 6) b_) 11 (mN M 6) (how - how / 100 * 100)) 12 (mN M 6) (how / 100 - how / 100 / 100 * 100)) 13 (mN M 6) (how / 10000)) 14 (mN M 6) site) 15 (mN M 6) (mS M 1 + 1)) 6 (mS M 6 + 1)) := by
  have q := ruG h hg
  have eC : mS M 1 = nI (mN M 1) := mS_nI h (k := 1) (b := 400) (by decide)
  have hC : mN M 1 ≤ 400 := mS_b h (by decide)
  have q4 := mI.rule4 (M := mT0 M) h.t0 (i := (mN M 6)) q.1 (fun z => ⟨⟨(q.2.1 z).1.1, by have := (q.2.1 z).1.2; omega⟩, (q.2.1 z).2.1, by have := (q.2.1 z).2.2; omega⟩) q.2.2
  refine (((((q4.qF (by decide)).qF (by decide)).qF (by decide)).qF (by decide)).qRv (b := 402) (by decide) ?_ (by decide)).inc (b := 16) (by decide) (mS_nI h (k := 6) (b := 16) (by decide)) hn (by decide)
  rw [eC, nI_1]
  have e : nN (nI (mN M 1 + 1)) = mN M 1 + 1 := nI_cl (by omega)
  rw [e]
  exact ⟨rfl, by omega⟩

set_option maxHeartbeats 4000000 in
set_option maxRecDepth 100000 in
theorem cR.rule_rul {τ : Nat → Nat → Nat} {S : awS} {M : aM} {what how site b_ : Int32} {a : Int64} (R : cR τ S M) (hτ : ∀ s, τ (mN M 6) s = mN M 1) (hn : (mN M 6) < 16) (hg : ruleGood M what a b_ how site) : cRul (rS2 S (mN M 6) (nI (mN M 6)) what a b_ how site) (pS (pA (pA (pA (pA (pA (pA (pL (pA (pA (mT0 M) 7 (mN M 6) (what - what / 100 * 100)) 8 (mN M 6) (what / 100)) 9 (mN M 6) a) 10 (mN M 6) b_) 11 (mN M 6) (how - how / 100 * 100)) 12 (mN M 6) (how / 100 - how / 100 / 100 * 100)) 13 (mN M 6) (how / 10000)) 14 (mN M 6) site) 15 (mN M 6) (mS M 1 + 1)) 6 (mS M 6 + 1)) := by
  have hN : mN (pS (pA (pA (pA (pA (pA (pA (pL (pA (pA (mT0 M) 7 (mN M 6) (what - what / 100 * 100)) 8 (mN M 6) (what / 100)) 9 (mN M 6) a) 10 (mN M 6) b_) 11 (mN M 6) (how - how / 100 * 100)) 12 (mN M 6) (how / 100 - how / 100 / 100 * 100)) 13 (mN M 6) (how / 10000)) 14 (mN M 6) site) 15 (mN M 6) (mS M 1 + 1)) 6 (mS M 6 + 1)) 6 = (mN M 6) + 1 := mN_inc (mS_nI R.mI (k := 6) (b := 16) (by decide)) (by omega)
  have h6 : sC S 6 = (mN M 6) := R.cx.2.2.2.1.trans (Nat.one_mul _)
  have h18 : sC S 18 = (mN M 6) := R.cx.2.2.2.2.1.trans (Nat.one_mul _)
  have h19 : sC S 19 = (mN M 6) := R.cx.2.2.2.2.2.1.trans (Nat.one_mul _)
  have h20 : sC S 20 = (mN M 6) := R.cx.2.2.2.2.2.2.1.trans (Nat.one_mul _)
  have h21 : sC S 21 = (mN M 6) := R.cx.2.2.2.2.2.2.2.1.trans (Nat.one_mul _)
  have hc := ru_c (num := nI (mN M 6)) (what := what) (a := a) (b_ := b_) (how := how) (site := site) h6 h18 h19 h20 h21
  have hn6 := ru_n6 (S := S) (n := (mN M 6)) (num := nI (mN M 6)) (what := what) (a := a) (b_ := b_) (how := how) (site := site)
  have hw0 : ∀ s, s < 16 → (∀ t, t < 401 → mA M 16 (401 * (16 * (mN M 6) + s) + t) = 0) ∧ mA M 18 (16 * (mN M 6) + s) = 0 ∧ mA M 19 (16 * (mN M 6) + s) = 0 ∧ mA M 17 (16 * (mN M 6) + s) = -1 ∧ mA M 20 (16 * (mN M 6) + s) < 0 := fun s hs => R.inv.2.1 (mN M 6) s (Or.inl (Nat.le_refl _)) hs hn
  have hcb : mN M 1 ≤ 400 := R.nC
  have eC1 : mS M 1 + 1 = nI (mN M 1 + 1) := by rw [mS_nI R.mI (k := 1) (b := 400) (by decide)]; exact nI_1 _
  have eCm : mE (pS (pA (pA (pA (pA (pA (pA (pL (pA (pA (mT0 M) 7 (mN M 6) (what - what / 100 * 100)) 8 (mN M 6) (what / 100)) 9 (mN M 6) a) 10 (mN M 6) b_) 11 (mN M 6) (how - how / 100 * 100)) 12 (mN M 6) (how / 100 - how / 100 / 100 * 100)) 13 (mN M 6) (how / 10000)) 14 (mN M 6) site) 15 (mN M 6) (mS M 1 + 1)) 6 (mS M 6 + 1)) 15 (mN M 6) = mN M 1 + 1 := by
    unfold mE
    simp [mA_pS, mA_pA, mA_pL, mL_pS, mL_pA, mL_pL, mT0, eC1]
    exact nI_cl (by omega)
  have eT : ∀ r s t, mTru (pS (pA (pA (pA (pA (pA (pA (pL (pA (pA (mT0 M) 7 (mN M 6) (what - what / 100 * 100)) 8 (mN M 6) (what / 100)) 9 (mN M 6) a) 10 (mN M 6) b_) 11 (mN M 6) (how - how / 100 * 100)) 12 (mN M 6) (how / 100 - how / 100 / 100 * 100)) 13 (mN M 6) (how / 10000)) 14 (mN M 6) site) 15 (mN M 6) (mS M 1 + 1)) 6 (mS M 6 + 1)) r s t = mTru M r s t := fun _ _ _ => rfl
  have hA0 : ∀ p s, leA (pS (pA (pA (pA (pA (pA (pA (pL (pA (pA (mT0 M) 7 (mN M 6) (what - what / 100 * 100)) 8 (mN M 6) (what / 100)) 9 (mN M 6) a) 10 (mN M 6) b_) 11 (mN M 6) (how - how / 100 * 100)) 12 (mN M 6) (how / 100 - how / 100 / 100 * 100)) 13 (mN M 6) (how / 10000)) 14 (mN M 6) site) 15 (mN M 6) (mS M 1 + 1)) 6 (mS M 6 + 1)) (mN M 6) p s (τ (mN M 6) s) = ((0 : Int32), (0 : Int32), false, 0) := fun p s => leA_0 (by rw [eCm, hτ]; exact Nat.le_refl _)
  have hAo : ∀ r p s t, r < (mN M 6) → leA (pS (pA (pA (pA (pA (pA (pA (pL (pA (pA (mT0 M) 7 (mN M 6) (what - what / 100 * 100)) 8 (mN M 6) (what / 100)) 9 (mN M 6) a) 10 (mN M 6) b_) 11 (mN M 6) (how - how / 100 * 100)) 12 (mN M 6) (how / 100 - how / 100 / 100 * 100)) 13 (mN M 6) (how / 10000)) 14 (mN M 6) site) 15 (mN M 6) (mS M 1 + 1)) 6 (mS M 6 + 1)) r p s t = leA M r p s t := fun r p s t hr => by
    have e : ¬ r = (mN M 6) := by omega
    refine leA_cg ?_ ?_ (fun t => rfl)
    · simp [mA_pS, mA_pA, mA_pL, mL_pS, mL_pA, mL_pL, mT0, e]
    · simp [mA_pS, mA_pA, mA_pL, mL_pS, mL_pA, mL_pL, mT0, e]
  intro i hi
  have hi : i < (mN M 6) + 1 := hN ▸ hi
  by_cases e : i = (mN M 6)
  · subst e
    obtain ⟨⟨a0, _⟩, _, a9, a10, a11, a12⟩ := hn6
    have hr := fun k => ru_nr (num := nI (mN M 6)) (what := what) (a := a) (b_ := b_) (how := how) (site := site) h18 h19 h20 h21 k
    refine ⟨a9, a10, a11, a12, (hr 0).2.2.2.1, (hr 0).2.2.2.2.1, (hr 0).2.2.2.2.2.1, (hr 0).2.2.2.2.2.2, a0, fun s hs => ⟨(hr s).2.2.1 hs, (ru_nw hs).2.2.2.2.2.1, (ru_nw hs).2.2.2.2.2.2.1⟩⟩
  · have q := R.rul i (by omega)
    have o6 := fun k => ru_o6 (num := nI (mN M 6)) (what := what) (a := a) (b_ := b_) (how := how) (site := site) h6 e k
    have oR := fun k => ru_or (num := nI (mN M 6)) (what := what) (a := a) (b_ := b_) (how := how) (site := site) h18 h19 h20 h21 e k
    obtain ⟨q1, q2, q3, q4, q5, q6, q7, q8, q9, q10⟩ := q
    refine ⟨(o6 9).2.2.trans q1, (o6 10).2.2.trans q2, (o6 11).2.2.trans q3, (o6 12).2.2.trans q4, (oR 0).2.2.2.1.trans q5, (oR 0).2.2.2.2.1.trans q6, (oR 0).2.2.2.2.2.1.trans q7, (oR 0).2.2.2.2.2.2.trans q8, (o6 0).1.trans q9, fun s hs => ?_⟩
    obtain ⟨w1, w2, w3⟩ := q10 s hs
    have hl : 16 * i + s < 16 * (mN M 6) := by omega
    exact ⟨(oR s).2.2.1.trans w1, (ru_ow hl 5).2.2.1.trans w2, (ru_ow hl 0).2.2.2.trans w3⟩

set_option maxHeartbeats 4000000 in
set_option maxRecDepth 100000 in
theorem cR.rule_la {τ : Nat → Nat → Nat} {S : awS} {M : aM} {what how site b_ : Int32} {a : Int64} (R : cR τ S M) (hτ : ∀ s, τ (mN M 6) s = mN M 1) (hn : (mN M 6) < 16) (hg : ruleGood M what a b_ how site) : cLa (rS2 S (mN M 6) (nI (mN M 6)) what a b_ how site) (pS (pA (pA (pA (pA (pA (pA (pL (pA (pA (mT0 M) 7 (mN M 6) (what - what / 100 * 100)) 8 (mN M 6) (what / 100)) 9 (mN M 6) a) 10 (mN M 6) b_) 11 (mN M 6) (how - how / 100 * 100)) 12 (mN M 6) (how / 100 - how / 100 / 100 * 100)) 13 (mN M 6) (how / 10000)) 14 (mN M 6) site) 15 (mN M 6) (mS M 1 + 1)) 6 (mS M 6 + 1)) := by
  have hN : mN (pS (pA (pA (pA (pA (pA (pA (pL (pA (pA (mT0 M) 7 (mN M 6) (what - what / 100 * 100)) 8 (mN M 6) (what / 100)) 9 (mN M 6) a) 10 (mN M 6) b_) 11 (mN M 6) (how - how / 100 * 100)) 12 (mN M 6) (how / 100 - how / 100 / 100 * 100)) 13 (mN M 6) (how / 10000)) 14 (mN M 6) site) 15 (mN M 6) (mS M 1 + 1)) 6 (mS M 6 + 1)) 6 = (mN M 6) + 1 := mN_inc (mS_nI R.mI (k := 6) (b := 16) (by decide)) (by omega)
  have h6 : sC S 6 = (mN M 6) := R.cx.2.2.2.1.trans (Nat.one_mul _)
  have h18 : sC S 18 = (mN M 6) := R.cx.2.2.2.2.1.trans (Nat.one_mul _)
  have h19 : sC S 19 = (mN M 6) := R.cx.2.2.2.2.2.1.trans (Nat.one_mul _)
  have h20 : sC S 20 = (mN M 6) := R.cx.2.2.2.2.2.2.1.trans (Nat.one_mul _)
  have h21 : sC S 21 = (mN M 6) := R.cx.2.2.2.2.2.2.2.1.trans (Nat.one_mul _)
  have hc := ru_c (num := nI (mN M 6)) (what := what) (a := a) (b_ := b_) (how := how) (site := site) h6 h18 h19 h20 h21
  have hn6 := ru_n6 (S := S) (n := (mN M 6)) (num := nI (mN M 6)) (what := what) (a := a) (b_ := b_) (how := how) (site := site)
  have hw0 : ∀ s, s < 16 → (∀ t, t < 401 → mA M 16 (401 * (16 * (mN M 6) + s) + t) = 0) ∧ mA M 18 (16 * (mN M 6) + s) = 0 ∧ mA M 19 (16 * (mN M 6) + s) = 0 ∧ mA M 17 (16 * (mN M 6) + s) = -1 ∧ mA M 20 (16 * (mN M 6) + s) < 0 := fun s hs => R.inv.2.1 (mN M 6) s (Or.inl (Nat.le_refl _)) hs hn
  have hcb : mN M 1 ≤ 400 := R.nC
  have eC1 : mS M 1 + 1 = nI (mN M 1 + 1) := by rw [mS_nI R.mI (k := 1) (b := 400) (by decide)]; exact nI_1 _
  have eCm : mE (pS (pA (pA (pA (pA (pA (pA (pL (pA (pA (mT0 M) 7 (mN M 6) (what - what / 100 * 100)) 8 (mN M 6) (what / 100)) 9 (mN M 6) a) 10 (mN M 6) b_) 11 (mN M 6) (how - how / 100 * 100)) 12 (mN M 6) (how / 100 - how / 100 / 100 * 100)) 13 (mN M 6) (how / 10000)) 14 (mN M 6) site) 15 (mN M 6) (mS M 1 + 1)) 6 (mS M 6 + 1)) 15 (mN M 6) = mN M 1 + 1 := by
    unfold mE
    simp [mA_pS, mA_pA, mA_pL, mL_pS, mL_pA, mL_pL, mT0, eC1]
    exact nI_cl (by omega)
  have eT : ∀ r s t, mTru (pS (pA (pA (pA (pA (pA (pA (pL (pA (pA (mT0 M) 7 (mN M 6) (what - what / 100 * 100)) 8 (mN M 6) (what / 100)) 9 (mN M 6) a) 10 (mN M 6) b_) 11 (mN M 6) (how - how / 100 * 100)) 12 (mN M 6) (how / 100 - how / 100 / 100 * 100)) 13 (mN M 6) (how / 10000)) 14 (mN M 6) site) 15 (mN M 6) (mS M 1 + 1)) 6 (mS M 6 + 1)) r s t = mTru M r s t := fun _ _ _ => rfl
  have hA0 : ∀ p s, leA (pS (pA (pA (pA (pA (pA (pA (pL (pA (pA (mT0 M) 7 (mN M 6) (what - what / 100 * 100)) 8 (mN M 6) (what / 100)) 9 (mN M 6) a) 10 (mN M 6) b_) 11 (mN M 6) (how - how / 100 * 100)) 12 (mN M 6) (how / 100 - how / 100 / 100 * 100)) 13 (mN M 6) (how / 10000)) 14 (mN M 6) site) 15 (mN M 6) (mS M 1 + 1)) 6 (mS M 6 + 1)) (mN M 6) p s (τ (mN M 6) s) = ((0 : Int32), (0 : Int32), false, 0) := fun p s => leA_0 (by rw [eCm, hτ]; exact Nat.le_refl _)
  have hAo : ∀ r p s t, r < (mN M 6) → leA (pS (pA (pA (pA (pA (pA (pA (pL (pA (pA (mT0 M) 7 (mN M 6) (what - what / 100 * 100)) 8 (mN M 6) (what / 100)) 9 (mN M 6) a) 10 (mN M 6) b_) 11 (mN M 6) (how - how / 100 * 100)) 12 (mN M 6) (how / 100 - how / 100 / 100 * 100)) 13 (mN M 6) (how / 10000)) 14 (mN M 6) site) 15 (mN M 6) (mS M 1 + 1)) 6 (mS M 6 + 1)) r p s t = leA M r p s t := fun r p s t hr => by
    have e : ¬ r = (mN M 6) := by omega
    refine leA_cg ?_ ?_ (fun t => rfl)
    · simp [mA_pS, mA_pA, mA_pL, mL_pS, mL_pA, mL_pL, mT0, e]
    · simp [mA_pS, mA_pA, mA_pL, mL_pS, mL_pA, mL_pL, mT0, e]
  intro r hr
  have hr : r < (mN M 6) + 1 := hN ▸ hr
  by_cases e : r = (mN M 6)
  · subst e
    rw [hn6.2.1]
    simp [mA_pS, mA_pA, mA_pL, mL_pS, mL_pA, mL_pL, mT0]
  · rw [(ru_o6 h6 e 2).2.1, R.la r (by omega)]
    simp [mA_pS, mA_pA, mA_pL, mL_pS, mL_pA, mL_pL, mT0, e]

set_option maxHeartbeats 4000000 in
set_option maxRecDepth 100000 in
theorem cR.rule_wat {τ : Nat → Nat → Nat} {S : awS} {M : aM} {what how site b_ : Int32} {a : Int64} (R : cR τ S M) (hτ : ∀ s, τ (mN M 6) s = mN M 1) (hn : (mN M 6) < 16) (hg : ruleGood M what a b_ how site) : cWat (rS2 S (mN M 6) (nI (mN M 6)) what a b_ how site) (pS (pA (pA (pA (pA (pA (pA (pL (pA (pA (mT0 M) 7 (mN M 6) (what - what / 100 * 100)) 8 (mN M 6) (what / 100)) 9 (mN M 6) a) 10 (mN M 6) b_) 11 (mN M 6) (how - how / 100 * 100)) 12 (mN M 6) (how / 100 - how / 100 / 100 * 100)) 13 (mN M 6) (how / 10000)) 14 (mN M 6) site) 15 (mN M 6) (mS M 1 + 1)) 6 (mS M 6 + 1)) := by
  have hN : mN (pS (pA (pA (pA (pA (pA (pA (pL (pA (pA (mT0 M) 7 (mN M 6) (what - what / 100 * 100)) 8 (mN M 6) (what / 100)) 9 (mN M 6) a) 10 (mN M 6) b_) 11 (mN M 6) (how - how / 100 * 100)) 12 (mN M 6) (how / 100 - how / 100 / 100 * 100)) 13 (mN M 6) (how / 10000)) 14 (mN M 6) site) 15 (mN M 6) (mS M 1 + 1)) 6 (mS M 6 + 1)) 6 = (mN M 6) + 1 := mN_inc (mS_nI R.mI (k := 6) (b := 16) (by decide)) (by omega)
  have h6 : sC S 6 = (mN M 6) := R.cx.2.2.2.1.trans (Nat.one_mul _)
  have h18 : sC S 18 = (mN M 6) := R.cx.2.2.2.2.1.trans (Nat.one_mul _)
  have h19 : sC S 19 = (mN M 6) := R.cx.2.2.2.2.2.1.trans (Nat.one_mul _)
  have h20 : sC S 20 = (mN M 6) := R.cx.2.2.2.2.2.2.1.trans (Nat.one_mul _)
  have h21 : sC S 21 = (mN M 6) := R.cx.2.2.2.2.2.2.2.1.trans (Nat.one_mul _)
  have hc := ru_c (num := nI (mN M 6)) (what := what) (a := a) (b_ := b_) (how := how) (site := site) h6 h18 h19 h20 h21
  have hn6 := ru_n6 (S := S) (n := (mN M 6)) (num := nI (mN M 6)) (what := what) (a := a) (b_ := b_) (how := how) (site := site)
  have hw0 : ∀ s, s < 16 → (∀ t, t < 401 → mA M 16 (401 * (16 * (mN M 6) + s) + t) = 0) ∧ mA M 18 (16 * (mN M 6) + s) = 0 ∧ mA M 19 (16 * (mN M 6) + s) = 0 ∧ mA M 17 (16 * (mN M 6) + s) = -1 ∧ mA M 20 (16 * (mN M 6) + s) < 0 := fun s hs => R.inv.2.1 (mN M 6) s (Or.inl (Nat.le_refl _)) hs hn
  have hcb : mN M 1 ≤ 400 := R.nC
  have eC1 : mS M 1 + 1 = nI (mN M 1 + 1) := by rw [mS_nI R.mI (k := 1) (b := 400) (by decide)]; exact nI_1 _
  have eCm : mE (pS (pA (pA (pA (pA (pA (pA (pL (pA (pA (mT0 M) 7 (mN M 6) (what - what / 100 * 100)) 8 (mN M 6) (what / 100)) 9 (mN M 6) a) 10 (mN M 6) b_) 11 (mN M 6) (how - how / 100 * 100)) 12 (mN M 6) (how / 100 - how / 100 / 100 * 100)) 13 (mN M 6) (how / 10000)) 14 (mN M 6) site) 15 (mN M 6) (mS M 1 + 1)) 6 (mS M 6 + 1)) 15 (mN M 6) = mN M 1 + 1 := by
    unfold mE
    simp [mA_pS, mA_pA, mA_pL, mL_pS, mL_pA, mL_pL, mT0, eC1]
    exact nI_cl (by omega)
  have eT : ∀ r s t, mTru (pS (pA (pA (pA (pA (pA (pA (pL (pA (pA (mT0 M) 7 (mN M 6) (what - what / 100 * 100)) 8 (mN M 6) (what / 100)) 9 (mN M 6) a) 10 (mN M 6) b_) 11 (mN M 6) (how - how / 100 * 100)) 12 (mN M 6) (how / 100 - how / 100 / 100 * 100)) 13 (mN M 6) (how / 10000)) 14 (mN M 6) site) 15 (mN M 6) (mS M 1 + 1)) 6 (mS M 6 + 1)) r s t = mTru M r s t := fun _ _ _ => rfl
  have hA0 : ∀ p s, leA (pS (pA (pA (pA (pA (pA (pA (pL (pA (pA (mT0 M) 7 (mN M 6) (what - what / 100 * 100)) 8 (mN M 6) (what / 100)) 9 (mN M 6) a) 10 (mN M 6) b_) 11 (mN M 6) (how - how / 100 * 100)) 12 (mN M 6) (how / 100 - how / 100 / 100 * 100)) 13 (mN M 6) (how / 10000)) 14 (mN M 6) site) 15 (mN M 6) (mS M 1 + 1)) 6 (mS M 6 + 1)) (mN M 6) p s (τ (mN M 6) s) = ((0 : Int32), (0 : Int32), false, 0) := fun p s => leA_0 (by rw [eCm, hτ]; exact Nat.le_refl _)
  have hAo : ∀ r p s t, r < (mN M 6) → leA (pS (pA (pA (pA (pA (pA (pA (pL (pA (pA (mT0 M) 7 (mN M 6) (what - what / 100 * 100)) 8 (mN M 6) (what / 100)) 9 (mN M 6) a) 10 (mN M 6) b_) 11 (mN M 6) (how - how / 100 * 100)) 12 (mN M 6) (how / 100 - how / 100 / 100 * 100)) 13 (mN M 6) (how / 10000)) 14 (mN M 6) site) 15 (mN M 6) (mS M 1 + 1)) 6 (mS M 6 + 1)) r p s t = leA M r p s t := fun r p s t hr => by
    have e : ¬ r = (mN M 6) := by omega
    refine leA_cg ?_ ?_ (fun t => rfl)
    · simp [mA_pS, mA_pA, mA_pL, mL_pS, mL_pA, mL_pL, mT0, e]
    · simp [mA_pS, mA_pA, mA_pL, mL_pS, mL_pA, mL_pL, mT0, e]
  intro w hw
  have hw : w < 16 * ((mN M 6) + 1) := hN ▸ hw
  by_cases e : w < 16 * (mN M 6)
  · rw [(ru_ow e 4).2.2.1]
    exact R.wat w e
  · obtain ⟨s, hs, rfl⟩ : ∃ s, s < 16 ∧ w = 16 * (mN M 6) + s := ⟨w - 16 * (mN M 6), by omega, by omega⟩
    rw [(ru_nw hs).2.2.2.2.1]
    exact (if_pos (hw0 s hs).2.2.2.2).symm

set_option maxHeartbeats 4000000 in
set_option maxRecDepth 100000 in
theorem cR.rule_tru {τ : Nat → Nat → Nat} {S : awS} {M : aM} {what how site b_ : Int32} {a : Int64} (R : cR τ S M) (hτ : ∀ s, τ (mN M 6) s = mN M 1) (hn : (mN M 6) < 16) (hg : ruleGood M what a b_ how site) : cTru τ (rS2 S (mN M 6) (nI (mN M 6)) what a b_ how site) (pS (pA (pA (pA (pA (pA (pA (pL (pA (pA (mT0 M) 7 (mN M 6) (what - what / 100 * 100)) 8 (mN M 6) (what / 100)) 9 (mN M 6) a) 10 (mN M 6) b_) 11 (mN M 6) (how - how / 100 * 100)) 12 (mN M 6) (how / 100 - how / 100 / 100 * 100)) 13 (mN M 6) (how / 10000)) 14 (mN M 6) site) 15 (mN M 6) (mS M 1 + 1)) 6 (mS M 6 + 1)) := by
  have hN : mN (pS (pA (pA (pA (pA (pA (pA (pL (pA (pA (mT0 M) 7 (mN M 6) (what - what / 100 * 100)) 8 (mN M 6) (what / 100)) 9 (mN M 6) a) 10 (mN M 6) b_) 11 (mN M 6) (how - how / 100 * 100)) 12 (mN M 6) (how / 100 - how / 100 / 100 * 100)) 13 (mN M 6) (how / 10000)) 14 (mN M 6) site) 15 (mN M 6) (mS M 1 + 1)) 6 (mS M 6 + 1)) 6 = (mN M 6) + 1 := mN_inc (mS_nI R.mI (k := 6) (b := 16) (by decide)) (by omega)
  have h6 : sC S 6 = (mN M 6) := R.cx.2.2.2.1.trans (Nat.one_mul _)
  have h18 : sC S 18 = (mN M 6) := R.cx.2.2.2.2.1.trans (Nat.one_mul _)
  have h19 : sC S 19 = (mN M 6) := R.cx.2.2.2.2.2.1.trans (Nat.one_mul _)
  have h20 : sC S 20 = (mN M 6) := R.cx.2.2.2.2.2.2.1.trans (Nat.one_mul _)
  have h21 : sC S 21 = (mN M 6) := R.cx.2.2.2.2.2.2.2.1.trans (Nat.one_mul _)
  have hc := ru_c (num := nI (mN M 6)) (what := what) (a := a) (b_ := b_) (how := how) (site := site) h6 h18 h19 h20 h21
  have hn6 := ru_n6 (S := S) (n := (mN M 6)) (num := nI (mN M 6)) (what := what) (a := a) (b_ := b_) (how := how) (site := site)
  have hw0 : ∀ s, s < 16 → (∀ t, t < 401 → mA M 16 (401 * (16 * (mN M 6) + s) + t) = 0) ∧ mA M 18 (16 * (mN M 6) + s) = 0 ∧ mA M 19 (16 * (mN M 6) + s) = 0 ∧ mA M 17 (16 * (mN M 6) + s) = -1 ∧ mA M 20 (16 * (mN M 6) + s) < 0 := fun s hs => R.inv.2.1 (mN M 6) s (Or.inl (Nat.le_refl _)) hs hn
  have hcb : mN M 1 ≤ 400 := R.nC
  have eC1 : mS M 1 + 1 = nI (mN M 1 + 1) := by rw [mS_nI R.mI (k := 1) (b := 400) (by decide)]; exact nI_1 _
  have eCm : mE (pS (pA (pA (pA (pA (pA (pA (pL (pA (pA (mT0 M) 7 (mN M 6) (what - what / 100 * 100)) 8 (mN M 6) (what / 100)) 9 (mN M 6) a) 10 (mN M 6) b_) 11 (mN M 6) (how - how / 100 * 100)) 12 (mN M 6) (how / 100 - how / 100 / 100 * 100)) 13 (mN M 6) (how / 10000)) 14 (mN M 6) site) 15 (mN M 6) (mS M 1 + 1)) 6 (mS M 6 + 1)) 15 (mN M 6) = mN M 1 + 1 := by
    unfold mE
    simp [mA_pS, mA_pA, mA_pL, mL_pS, mL_pA, mL_pL, mT0, eC1]
    exact nI_cl (by omega)
  have eT : ∀ r s t, mTru (pS (pA (pA (pA (pA (pA (pA (pL (pA (pA (mT0 M) 7 (mN M 6) (what - what / 100 * 100)) 8 (mN M 6) (what / 100)) 9 (mN M 6) a) 10 (mN M 6) b_) 11 (mN M 6) (how - how / 100 * 100)) 12 (mN M 6) (how / 100 - how / 100 / 100 * 100)) 13 (mN M 6) (how / 10000)) 14 (mN M 6) site) 15 (mN M 6) (mS M 1 + 1)) 6 (mS M 6 + 1)) r s t = mTru M r s t := fun _ _ _ => rfl
  have hA0 : ∀ p s, leA (pS (pA (pA (pA (pA (pA (pA (pL (pA (pA (mT0 M) 7 (mN M 6) (what - what / 100 * 100)) 8 (mN M 6) (what / 100)) 9 (mN M 6) a) 10 (mN M 6) b_) 11 (mN M 6) (how - how / 100 * 100)) 12 (mN M 6) (how / 100 - how / 100 / 100 * 100)) 13 (mN M 6) (how / 10000)) 14 (mN M 6) site) 15 (mN M 6) (mS M 1 + 1)) 6 (mS M 6 + 1)) (mN M 6) p s (τ (mN M 6) s) = ((0 : Int32), (0 : Int32), false, 0) := fun p s => leA_0 (by rw [eCm, hτ]; exact Nat.le_refl _)
  have hAo : ∀ r p s t, r < (mN M 6) → leA (pS (pA (pA (pA (pA (pA (pA (pL (pA (pA (mT0 M) 7 (mN M 6) (what - what / 100 * 100)) 8 (mN M 6) (what / 100)) 9 (mN M 6) a) 10 (mN M 6) b_) 11 (mN M 6) (how - how / 100 * 100)) 12 (mN M 6) (how / 100 - how / 100 / 100 * 100)) 13 (mN M 6) (how / 10000)) 14 (mN M 6) site) 15 (mN M 6) (mS M 1 + 1)) 6 (mS M 6 + 1)) r p s t = leA M r p s t := fun r p s t hr => by
    have e : ¬ r = (mN M 6) := by omega
    refine leA_cg ?_ ?_ (fun t => rfl)
    · simp [mA_pS, mA_pA, mA_pL, mL_pS, mL_pA, mL_pL, mT0, e]
    · simp [mA_pS, mA_pA, mA_pL, mL_pS, mL_pA, mL_pL, mT0, e]
  intro r s hr hs
  have hr : r < (mN M 6) + 1 := hN ▸ hr
  rw [eT]
  by_cases e : r = (mN M 6)
  · subst e
    rw [(ru_nw hs).1, hτ]
    unfold mTru
    rw [(hw0 s hs).1 _ (by omega)]
    decide
  · rw [(ru_ow (by omega) 0).1]
    exact R.tru r s (by omega) hs

set_option maxHeartbeats 4000000 in
set_option maxRecDepth 100000 in
theorem cR.rule_hld {τ : Nat → Nat → Nat} {S : awS} {M : aM} {what how site b_ : Int32} {a : Int64} (R : cR τ S M) (hτ : ∀ s, τ (mN M 6) s = mN M 1) (hn : (mN M 6) < 16) (hg : ruleGood M what a b_ how site) : cHld (rS2 S (mN M 6) (nI (mN M 6)) what a b_ how site) (pS (pA (pA (pA (pA (pA (pA (pL (pA (pA (mT0 M) 7 (mN M 6) (what - what / 100 * 100)) 8 (mN M 6) (what / 100)) 9 (mN M 6) a) 10 (mN M 6) b_) 11 (mN M 6) (how - how / 100 * 100)) 12 (mN M 6) (how / 100 - how / 100 / 100 * 100)) 13 (mN M 6) (how / 10000)) 14 (mN M 6) site) 15 (mN M 6) (mS M 1 + 1)) 6 (mS M 6 + 1)) := by
  have hN : mN (pS (pA (pA (pA (pA (pA (pA (pL (pA (pA (mT0 M) 7 (mN M 6) (what - what / 100 * 100)) 8 (mN M 6) (what / 100)) 9 (mN M 6) a) 10 (mN M 6) b_) 11 (mN M 6) (how - how / 100 * 100)) 12 (mN M 6) (how / 100 - how / 100 / 100 * 100)) 13 (mN M 6) (how / 10000)) 14 (mN M 6) site) 15 (mN M 6) (mS M 1 + 1)) 6 (mS M 6 + 1)) 6 = (mN M 6) + 1 := mN_inc (mS_nI R.mI (k := 6) (b := 16) (by decide)) (by omega)
  have h6 : sC S 6 = (mN M 6) := R.cx.2.2.2.1.trans (Nat.one_mul _)
  have h18 : sC S 18 = (mN M 6) := R.cx.2.2.2.2.1.trans (Nat.one_mul _)
  have h19 : sC S 19 = (mN M 6) := R.cx.2.2.2.2.2.1.trans (Nat.one_mul _)
  have h20 : sC S 20 = (mN M 6) := R.cx.2.2.2.2.2.2.1.trans (Nat.one_mul _)
  have h21 : sC S 21 = (mN M 6) := R.cx.2.2.2.2.2.2.2.1.trans (Nat.one_mul _)
  have hc := ru_c (num := nI (mN M 6)) (what := what) (a := a) (b_ := b_) (how := how) (site := site) h6 h18 h19 h20 h21
  have hn6 := ru_n6 (S := S) (n := (mN M 6)) (num := nI (mN M 6)) (what := what) (a := a) (b_ := b_) (how := how) (site := site)
  have hw0 : ∀ s, s < 16 → (∀ t, t < 401 → mA M 16 (401 * (16 * (mN M 6) + s) + t) = 0) ∧ mA M 18 (16 * (mN M 6) + s) = 0 ∧ mA M 19 (16 * (mN M 6) + s) = 0 ∧ mA M 17 (16 * (mN M 6) + s) = -1 ∧ mA M 20 (16 * (mN M 6) + s) < 0 := fun s hs => R.inv.2.1 (mN M 6) s (Or.inl (Nat.le_refl _)) hs hn
  have hcb : mN M 1 ≤ 400 := R.nC
  have eC1 : mS M 1 + 1 = nI (mN M 1 + 1) := by rw [mS_nI R.mI (k := 1) (b := 400) (by decide)]; exact nI_1 _
  have eCm : mE (pS (pA (pA (pA (pA (pA (pA (pL (pA (pA (mT0 M) 7 (mN M 6) (what - what / 100 * 100)) 8 (mN M 6) (what / 100)) 9 (mN M 6) a) 10 (mN M 6) b_) 11 (mN M 6) (how - how / 100 * 100)) 12 (mN M 6) (how / 100 - how / 100 / 100 * 100)) 13 (mN M 6) (how / 10000)) 14 (mN M 6) site) 15 (mN M 6) (mS M 1 + 1)) 6 (mS M 6 + 1)) 15 (mN M 6) = mN M 1 + 1 := by
    unfold mE
    simp [mA_pS, mA_pA, mA_pL, mL_pS, mL_pA, mL_pL, mT0, eC1]
    exact nI_cl (by omega)
  have eT : ∀ r s t, mTru (pS (pA (pA (pA (pA (pA (pA (pL (pA (pA (mT0 M) 7 (mN M 6) (what - what / 100 * 100)) 8 (mN M 6) (what / 100)) 9 (mN M 6) a) 10 (mN M 6) b_) 11 (mN M 6) (how - how / 100 * 100)) 12 (mN M 6) (how / 100 - how / 100 / 100 * 100)) 13 (mN M 6) (how / 10000)) 14 (mN M 6) site) 15 (mN M 6) (mS M 1 + 1)) 6 (mS M 6 + 1)) r s t = mTru M r s t := fun _ _ _ => rfl
  have hA0 : ∀ p s, leA (pS (pA (pA (pA (pA (pA (pA (pL (pA (pA (mT0 M) 7 (mN M 6) (what - what / 100 * 100)) 8 (mN M 6) (what / 100)) 9 (mN M 6) a) 10 (mN M 6) b_) 11 (mN M 6) (how - how / 100 * 100)) 12 (mN M 6) (how / 100 - how / 100 / 100 * 100)) 13 (mN M 6) (how / 10000)) 14 (mN M 6) site) 15 (mN M 6) (mS M 1 + 1)) 6 (mS M 6 + 1)) (mN M 6) p s (τ (mN M 6) s) = ((0 : Int32), (0 : Int32), false, 0) := fun p s => leA_0 (by rw [eCm, hτ]; exact Nat.le_refl _)
  have hAo : ∀ r p s t, r < (mN M 6) → leA (pS (pA (pA (pA (pA (pA (pA (pL (pA (pA (mT0 M) 7 (mN M 6) (what - what / 100 * 100)) 8 (mN M 6) (what / 100)) 9 (mN M 6) a) 10 (mN M 6) b_) 11 (mN M 6) (how - how / 100 * 100)) 12 (mN M 6) (how / 100 - how / 100 / 100 * 100)) 13 (mN M 6) (how / 10000)) 14 (mN M 6) site) 15 (mN M 6) (mS M 1 + 1)) 6 (mS M 6 + 1)) r p s t = leA M r p s t := fun r p s t hr => by
    have e : ¬ r = (mN M 6) := by omega
    refine leA_cg ?_ ?_ (fun t => rfl)
    · simp [mA_pS, mA_pA, mA_pL, mL_pS, mL_pA, mL_pL, mT0, e]
    · simp [mA_pS, mA_pA, mA_pL, mL_pS, mL_pA, mL_pL, mT0, e]
  intro r l hr hl hd hh
  have hr : r < (mN M 6) + 1 := hN ▸ hr
  by_cases e : r = (mN M 6)
  · subst e
    rw [(ru_nr h18 h19 h20 h21 l).1]
    refine ⟨fun z => absurd z (hBit_0 hd), fun ⟨k, k1, k2, _⟩ => ?_⟩
    have w := (R.inv.2.2.2.2.2.2.2.1 k k1).1
    have k2 : mA M 22 k = nI (mN M 6) := k2
    unfold mE at w
    rw [k2, nI_cl (by omega)] at w
    exact absurd w (Nat.lt_irrefl _)
  · rw [(ru_or h18 h19 h20 h21 e l).1]
    exact R.hld r l (by omega) hl hd hh

set_option maxHeartbeats 4000000 in
set_option maxRecDepth 100000 in
theorem cR.rule_lea {τ : Nat → Nat → Nat} {S : awS} {M : aM} {what how site b_ : Int32} {a : Int64} (R : cR τ S M) (hτ : ∀ s, τ (mN M 6) s = mN M 1) (hn : (mN M 6) < 16) (hg : ruleGood M what a b_ how site) : cLea τ (rS2 S (mN M 6) (nI (mN M 6)) what a b_ how site) (pS (pA (pA (pA (pA (pA (pA (pL (pA (pA (mT0 M) 7 (mN M 6) (what - what / 100 * 100)) 8 (mN M 6) (what / 100)) 9 (mN M 6) a) 10 (mN M 6) b_) 11 (mN M 6) (how - how / 100 * 100)) 12 (mN M 6) (how / 100 - how / 100 / 100 * 100)) 13 (mN M 6) (how / 10000)) 14 (mN M 6) site) 15 (mN M 6) (mS M 1 + 1)) 6 (mS M 6 + 1)) := by
  have hN : mN (pS (pA (pA (pA (pA (pA (pA (pL (pA (pA (mT0 M) 7 (mN M 6) (what - what / 100 * 100)) 8 (mN M 6) (what / 100)) 9 (mN M 6) a) 10 (mN M 6) b_) 11 (mN M 6) (how - how / 100 * 100)) 12 (mN M 6) (how / 100 - how / 100 / 100 * 100)) 13 (mN M 6) (how / 10000)) 14 (mN M 6) site) 15 (mN M 6) (mS M 1 + 1)) 6 (mS M 6 + 1)) 6 = (mN M 6) + 1 := mN_inc (mS_nI R.mI (k := 6) (b := 16) (by decide)) (by omega)
  have h6 : sC S 6 = (mN M 6) := R.cx.2.2.2.1.trans (Nat.one_mul _)
  have h18 : sC S 18 = (mN M 6) := R.cx.2.2.2.2.1.trans (Nat.one_mul _)
  have h19 : sC S 19 = (mN M 6) := R.cx.2.2.2.2.2.1.trans (Nat.one_mul _)
  have h20 : sC S 20 = (mN M 6) := R.cx.2.2.2.2.2.2.1.trans (Nat.one_mul _)
  have h21 : sC S 21 = (mN M 6) := R.cx.2.2.2.2.2.2.2.1.trans (Nat.one_mul _)
  have hc := ru_c (num := nI (mN M 6)) (what := what) (a := a) (b_ := b_) (how := how) (site := site) h6 h18 h19 h20 h21
  have hn6 := ru_n6 (S := S) (n := (mN M 6)) (num := nI (mN M 6)) (what := what) (a := a) (b_ := b_) (how := how) (site := site)
  have hw0 : ∀ s, s < 16 → (∀ t, t < 401 → mA M 16 (401 * (16 * (mN M 6) + s) + t) = 0) ∧ mA M 18 (16 * (mN M 6) + s) = 0 ∧ mA M 19 (16 * (mN M 6) + s) = 0 ∧ mA M 17 (16 * (mN M 6) + s) = -1 ∧ mA M 20 (16 * (mN M 6) + s) < 0 := fun s hs => R.inv.2.1 (mN M 6) s (Or.inl (Nat.le_refl _)) hs hn
  have hcb : mN M 1 ≤ 400 := R.nC
  have eC1 : mS M 1 + 1 = nI (mN M 1 + 1) := by rw [mS_nI R.mI (k := 1) (b := 400) (by decide)]; exact nI_1 _
  have eCm : mE (pS (pA (pA (pA (pA (pA (pA (pL (pA (pA (mT0 M) 7 (mN M 6) (what - what / 100 * 100)) 8 (mN M 6) (what / 100)) 9 (mN M 6) a) 10 (mN M 6) b_) 11 (mN M 6) (how - how / 100 * 100)) 12 (mN M 6) (how / 100 - how / 100 / 100 * 100)) 13 (mN M 6) (how / 10000)) 14 (mN M 6) site) 15 (mN M 6) (mS M 1 + 1)) 6 (mS M 6 + 1)) 15 (mN M 6) = mN M 1 + 1 := by
    unfold mE
    simp [mA_pS, mA_pA, mA_pL, mL_pS, mL_pA, mL_pL, mT0, eC1]
    exact nI_cl (by omega)
  have eT : ∀ r s t, mTru (pS (pA (pA (pA (pA (pA (pA (pL (pA (pA (mT0 M) 7 (mN M 6) (what - what / 100 * 100)) 8 (mN M 6) (what / 100)) 9 (mN M 6) a) 10 (mN M 6) b_) 11 (mN M 6) (how - how / 100 * 100)) 12 (mN M 6) (how / 100 - how / 100 / 100 * 100)) 13 (mN M 6) (how / 10000)) 14 (mN M 6) site) 15 (mN M 6) (mS M 1 + 1)) 6 (mS M 6 + 1)) r s t = mTru M r s t := fun _ _ _ => rfl
  have hA0 : ∀ p s, leA (pS (pA (pA (pA (pA (pA (pA (pL (pA (pA (mT0 M) 7 (mN M 6) (what - what / 100 * 100)) 8 (mN M 6) (what / 100)) 9 (mN M 6) a) 10 (mN M 6) b_) 11 (mN M 6) (how - how / 100 * 100)) 12 (mN M 6) (how / 100 - how / 100 / 100 * 100)) 13 (mN M 6) (how / 10000)) 14 (mN M 6) site) 15 (mN M 6) (mS M 1 + 1)) 6 (mS M 6 + 1)) (mN M 6) p s (τ (mN M 6) s) = ((0 : Int32), (0 : Int32), false, 0) := fun p s => leA_0 (by rw [eCm, hτ]; exact Nat.le_refl _)
  have hAo : ∀ r p s t, r < (mN M 6) → leA (pS (pA (pA (pA (pA (pA (pA (pL (pA (pA (mT0 M) 7 (mN M 6) (what - what / 100 * 100)) 8 (mN M 6) (what / 100)) 9 (mN M 6) a) 10 (mN M 6) b_) 11 (mN M 6) (how - how / 100 * 100)) 12 (mN M 6) (how / 100 - how / 100 / 100 * 100)) 13 (mN M 6) (how / 10000)) 14 (mN M 6) site) 15 (mN M 6) (mS M 1 + 1)) 6 (mS M 6 + 1)) r p s t = leA M r p s t := fun r p s t hr => by
    have e : ¬ r = (mN M 6) := by omega
    refine leA_cg ?_ ?_ (fun t => rfl)
    · simp [mA_pS, mA_pA, mA_pL, mL_pS, mL_pA, mL_pL, mT0, e]
    · simp [mA_pS, mA_pA, mA_pL, mL_pS, mL_pA, mL_pL, mT0, e]
  intro r p hr hp1 hp2
  have hr : r < (mN M 6) + 1 := hN ▸ hr
  by_cases e : r = (mN M 6)
  · subst e
    refine ⟨?_, fun s hs => ?_⟩
    · rw [(ru_nr h18 h19 h20 h21 p).2.1, leSum_0 (fun s _ => by rw [hA0])]
      rfl
    · rw [hA0, (ru_nw hs).2.2.2.2.2.2.2 p]
      exact ⟨(hw0 s hs).2.1.symm, (hw0 s hs).2.2.1.symm, rfl⟩
  · have q := R.lea r p (by omega) hp1 hp2
    refine ⟨?_, fun s hs => ?_⟩
    · rw [(ru_or h18 h19 h20 h21 e p).2.1, leSum_cg (fun s _ => hAo r p s _ (by omega))]
      exact q.1
    · rw [hAo r p s _ (by omega), (ru_ow (by omega) p).2.1]
      exact q.2 s hs

set_option maxHeartbeats 4000000 in
set_option maxRecDepth 100000 in
theorem cR.rule_inv {τ : Nat → Nat → Nat} {S : awS} {M : aM} {what how site b_ : Int32} {a : Int64} (R : cR τ S M) (hτ : ∀ s, τ (mN M 6) s = mN M 1) (hn : (mN M 6) < 16) (hg : ruleGood M what a b_ how site) : cInv τ (pS (pA (pA (pA (pA (pA (pA (pL (pA (pA (mT0 M) 7 (mN M 6) (what - what / 100 * 100)) 8 (mN M 6) (what / 100)) 9 (mN M 6) a) 10 (mN M 6) b_) 11 (mN M 6) (how - how / 100 * 100)) 12 (mN M 6) (how / 100 - how / 100 / 100 * 100)) 13 (mN M 6) (how / 10000)) 14 (mN M 6) site) 15 (mN M 6) (mS M 1 + 1)) 6 (mS M 6 + 1)) := by
  have hN : mN (pS (pA (pA (pA (pA (pA (pA (pL (pA (pA (mT0 M) 7 (mN M 6) (what - what / 100 * 100)) 8 (mN M 6) (what / 100)) 9 (mN M 6) a) 10 (mN M 6) b_) 11 (mN M 6) (how - how / 100 * 100)) 12 (mN M 6) (how / 100 - how / 100 / 100 * 100)) 13 (mN M 6) (how / 10000)) 14 (mN M 6) site) 15 (mN M 6) (mS M 1 + 1)) 6 (mS M 6 + 1)) 6 = (mN M 6) + 1 := mN_inc (mS_nI R.mI (k := 6) (b := 16) (by decide)) (by omega)
  have h6 : sC S 6 = (mN M 6) := R.cx.2.2.2.1.trans (Nat.one_mul _)
  have h18 : sC S 18 = (mN M 6) := R.cx.2.2.2.2.1.trans (Nat.one_mul _)
  have h19 : sC S 19 = (mN M 6) := R.cx.2.2.2.2.2.1.trans (Nat.one_mul _)
  have h20 : sC S 20 = (mN M 6) := R.cx.2.2.2.2.2.2.1.trans (Nat.one_mul _)
  have h21 : sC S 21 = (mN M 6) := R.cx.2.2.2.2.2.2.2.1.trans (Nat.one_mul _)
  have hc := ru_c (num := nI (mN M 6)) (what := what) (a := a) (b_ := b_) (how := how) (site := site) h6 h18 h19 h20 h21
  have hn6 := ru_n6 (S := S) (n := (mN M 6)) (num := nI (mN M 6)) (what := what) (a := a) (b_ := b_) (how := how) (site := site)
  have hw0 : ∀ s, s < 16 → (∀ t, t < 401 → mA M 16 (401 * (16 * (mN M 6) + s) + t) = 0) ∧ mA M 18 (16 * (mN M 6) + s) = 0 ∧ mA M 19 (16 * (mN M 6) + s) = 0 ∧ mA M 17 (16 * (mN M 6) + s) = -1 ∧ mA M 20 (16 * (mN M 6) + s) < 0 := fun s hs => R.inv.2.1 (mN M 6) s (Or.inl (Nat.le_refl _)) hs hn
  have hcb : mN M 1 ≤ 400 := R.nC
  have eC1 : mS M 1 + 1 = nI (mN M 1 + 1) := by rw [mS_nI R.mI (k := 1) (b := 400) (by decide)]; exact nI_1 _
  have eCm : mE (pS (pA (pA (pA (pA (pA (pA (pL (pA (pA (mT0 M) 7 (mN M 6) (what - what / 100 * 100)) 8 (mN M 6) (what / 100)) 9 (mN M 6) a) 10 (mN M 6) b_) 11 (mN M 6) (how - how / 100 * 100)) 12 (mN M 6) (how / 100 - how / 100 / 100 * 100)) 13 (mN M 6) (how / 10000)) 14 (mN M 6) site) 15 (mN M 6) (mS M 1 + 1)) 6 (mS M 6 + 1)) 15 (mN M 6) = mN M 1 + 1 := by
    unfold mE
    simp [mA_pS, mA_pA, mA_pL, mL_pS, mL_pA, mL_pL, mT0, eC1]
    exact nI_cl (by omega)
  have eT : ∀ r s t, mTru (pS (pA (pA (pA (pA (pA (pA (pL (pA (pA (mT0 M) 7 (mN M 6) (what - what / 100 * 100)) 8 (mN M 6) (what / 100)) 9 (mN M 6) a) 10 (mN M 6) b_) 11 (mN M 6) (how - how / 100 * 100)) 12 (mN M 6) (how / 100 - how / 100 / 100 * 100)) 13 (mN M 6) (how / 10000)) 14 (mN M 6) site) 15 (mN M 6) (mS M 1 + 1)) 6 (mS M 6 + 1)) r s t = mTru M r s t := fun _ _ _ => rfl
  have hA0 : ∀ p s, leA (pS (pA (pA (pA (pA (pA (pA (pL (pA (pA (mT0 M) 7 (mN M 6) (what - what / 100 * 100)) 8 (mN M 6) (what / 100)) 9 (mN M 6) a) 10 (mN M 6) b_) 11 (mN M 6) (how - how / 100 * 100)) 12 (mN M 6) (how / 100 - how / 100 / 100 * 100)) 13 (mN M 6) (how / 10000)) 14 (mN M 6) site) 15 (mN M 6) (mS M 1 + 1)) 6 (mS M 6 + 1)) (mN M 6) p s (τ (mN M 6) s) = ((0 : Int32), (0 : Int32), false, 0) := fun p s => leA_0 (by rw [eCm, hτ]; exact Nat.le_refl _)
  have hAo : ∀ r p s t, r < (mN M 6) → leA (pS (pA (pA (pA (pA (pA (pA (pL (pA (pA (mT0 M) 7 (mN M 6) (what - what / 100 * 100)) 8 (mN M 6) (what / 100)) 9 (mN M 6) a) 10 (mN M 6) b_) 11 (mN M 6) (how - how / 100 * 100)) 12 (mN M 6) (how / 100 - how / 100 / 100 * 100)) 13 (mN M 6) (how / 10000)) 14 (mN M 6) site) 15 (mN M 6) (mS M 1 + 1)) 6 (mS M 6 + 1)) r p s t = leA M r p s t := fun r p s t hr => by
    have e : ¬ r = (mN M 6) := by omega
    refine leA_cg ?_ ?_ (fun t => rfl)
    · simp [mA_pS, mA_pA, mA_pL, mL_pS, mL_pA, mL_pL, mT0, e]
    · simp [mA_pS, mA_pA, mA_pL, mL_pS, mL_pA, mL_pL, mT0, e]
  refine ⟨?_, ?_, ?_, R.inv.2.2.2.1, R.inv.2.2.2.2.1, R.inv.2.2.2.2.2.1, ?_, ?_, ?_, R.inv.2.2.2.2.2.2.2.2.2.1, R.inv.2.2.2.2.2.2.2.2.2.2.1, R.inv.2.2.2.2.2.2.2.2.2.2.2⟩
  · intro r s t hc hs ht
    refine R.inv.1 r s t ?_ hs ht
    have hc : ((mN M 6) + 1 ≤ r ∨ mN M 2 ≤ s) ∨ (r < (mN M 6) + 1 ∧ s < mN M 2 ∧ τ r s < t) := hN ▸ hc
    omega
  · intro r s hc hs hr
    have hc : (mN M 6) + 1 ≤ r ∨ mN M 2 ≤ s ∨ (0 ≤ mA (pS (pA (pA (pA (pA (pA (pA (pL (pA (pA (mT0 M) 7 (mN M 6) (what - what / 100 * 100)) 8 (mN M 6) (what / 100)) 9 (mN M 6) a) 10 (mN M 6) b_) 11 (mN M 6) (how - how / 100 * 100)) 12 (mN M 6) (how / 100 - how / 100 / 100 * 100)) 13 (mN M 6) (how / 10000)) 14 (mN M 6) site) 15 (mN M 6) (mS M 1 + 1)) 6 (mS M 6 + 1)) 14 r ∧ ¬ mA (pS (pA (pA (pA (pA (pA (pA (pL (pA (pA (mT0 M) 7 (mN M 6) (what - what / 100 * 100)) 8 (mN M 6) (what / 100)) 9 (mN M 6) a) 10 (mN M 6) b_) 11 (mN M 6) (how - how / 100 * 100)) 12 (mN M 6) (how / 100 - how / 100 / 100 * 100)) 13 (mN M 6) (how / 10000)) 14 (mN M 6) site) 15 (mN M 6) (mS M 1 + 1)) 6 (mS M 6 + 1)) 14 r = mA M 3 s) := hN ▸ hc
    refine R.inv.2.1 r s ?_ hs hr
    by_cases e : (mN M 6) ≤ r
    · exact Or.inl e
    · have e2 : ¬ r = (mN M 6) := by omega
      refine hc.elim (fun z => absurd z (by omega)) (fun z => z.elim (fun w => Or.inr (Or.inl w)) (fun w => Or.inr (Or.inr ?_)))
      simp [mA_pS, mA_pA, mA_pL, mL_pS, mL_pA, mL_pL, mT0, e2] at w
      exact w
  · intro i hi
    obtain ⟨z1, z2⟩ := R.inv.2.2.1 i hi
    exact ⟨by rw [hN]; exact Nat.lt_succ_of_lt z1, z2⟩
  · intro r hr
    have hr : r < (mN M 6) + 1 := hN ▸ hr
    by_cases e : r = (mN M 6)
    · subst e
      have w := ruG R.mI hg
      obtain ⟨g0, g1, g2, g3, g4, g5, g6, g7, g8, g9⟩ := hg
      refine ⟨?_, ?_, by rw [eCm]; exact Nat.le_refl _, ?_, ?_⟩
      · simp [mA_pS, mA_pA, mA_pL, mL_pS, mL_pA, mL_pL, mT0]
        exact g3.1
      · simp [mA_pS, mA_pA, mA_pL, mL_pS, mL_pA, mL_pL, mT0]
        exact g4.1
      · simp [mA_pS, mA_pA, mA_pL, mL_pS, mL_pA, mL_pL, mT0]
        exact g6.1
      · unfold mE
        simp [mA_pS, mA_pA, mA_pL, mL_pS, mL_pA, mL_pL, mT0]
        exact fun z => ⟨(w.2.1 z).1.2, (w.2.1 z).2.2⟩
    · have q := R.inv.2.2.2.2.2.2.1 r (by omega)
      unfold mE at q ⊢
      simp [mA_pS, mA_pA, mA_pL, mL_pS, mL_pA, mL_pL, mT0, e] at q ⊢
      exact q
  · intro k hk
    obtain ⟨z1, z2, z3⟩ := R.inv.2.2.2.2.2.2.2.1 k hk
    exact ⟨by rw [hN]; exact Nat.lt_succ_of_lt z1, by rw [hN]; exact Nat.lt_succ_of_lt z2, z3⟩
  · intro k hk
    obtain ⟨z1, z2⟩ := R.inv.2.2.2.2.2.2.2.2.1 k hk
    refine ⟨?_, z2⟩
    show mA M 27 k < mS M 6 + 1
    rw [(mS_nI R.mI (k := 6) (b := 16) (by decide))] at z1 ⊢
    rw [nI_1]
    exact Int32.lt_trans z1 (nI_lt (by omega) (by omega))

