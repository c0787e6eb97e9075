-- the ranges of what the reference uses as an index, at all times
def mIs : List (Nat × Nat) := [(2, 16), (6, 16), (21, 40), (25, 20), (52, 8), (53, 40), (58, 20), (30, 300), (48, 300), (63, 200), (1, 400)]
def mIa : List (Nat × Nat × Nat) := [(7, 16, 7), (15, 16, 402), (31, 300, 16), (32, 300, 16), (42, 300, 300), (49, 300, 300), (22, 40, 16), (23, 40, 16), (54, 40, 8), (55, 40, 48), (56, 40, 49), (59, 20, 8), (60, 20, 8), (76, 8, 8), (77, 8, 8), (67, 200, 41), (68, 8000, 300), (65, 200, 300), (69, 200, 9), (70, 1600, 8), (71, 200, 9), (80, 8, 61)]
/-- x or none -/
def rgM (v : Int32) (n : Nat) : Prop := v < 0 ∨ (v = nI (nN v) ∧ nN v < n)
def mI6 (M : aM) (r : Nat) : Prop := (mA M 7 r = 6 → ((mL M 9 r).toInt32 = nI (nN (mL M 9 r).toInt32) ∧ nN (mL M 9 r).toInt32 < 16) ∧ (mA M 10 r = nI (mE M 10 r) ∧ mE M 10 r < 16)) ∧
  (¬ mA M 7 r = 0 → ¬ mA M 7 r = 1 → ¬ mA M 7 r = 6 → mA M 8 r = nI (mE M 8 r) ∧ mE M 8 r ≤ 20)
def mIb (M : aM) (d : Nat) : Prop := mA M 79 d = 1 → mA M 81 d = nI (mE M 81 d) ∧ mE M 81 d < 300
/-- (c: how many groups more than alarms there may be: one while an alarm begins) -/
def mIx (c : Nat) (M : aM) : Prop := (∀ q ∈ mIs, rgS M q.1 q.2) ∧ (∀ q ∈ mIa, rgA M q.1 q.2.1 q.2.2) ∧ mN M 48 ≤ mN M 30 + c ∧ (∀ j, rgM (mA M 20 j) 300) ∧ (∀ r, r < 16 → mI6 M r) ∧ (∀ d, d < 8 → mIb M d)
abbrev mI (M : aM) : Prop := mIx 0 M
theorem mIx.S {w : Nat} {M : aM} (h : mIx w M) {k b : Nat} (hq : (k, b) ∈ mIs) : rgS M k b := h.1 _ hq
theorem mIx.A {w : Nat} {M : aM} (h : mIx w M) {k n b : Nat} (hq : (k, n, b) ∈ mIa) {j : Nat} (hj : j < n) : mA M k j = nI (mE M k j) ∧ mE M k j < b := h.2.1 _ hq j hj
theorem mIx.ga {w : Nat} {M : aM} (h : mIx w M) : mN M 48 ≤ mN M 30 + w := h.2.2.1
theorem mIx.la {w : Nat} {M : aM} (h : mIx w M) (j : Nat) : rgM (mA M 20 j) 300 := h.2.2.2.1 j
theorem mIx.i6 {w : Nat} {M : aM} (h : mIx w M) {r : Nat} (hr : r < 16) : mI6 M r := h.2.2.2.2.1 r hr
theorem mIx.bd {w : Nat} {M : aM} (h : mIx w M) {d : Nat} (hd : d < 8) : mIb M d := h.2.2.2.2.2 d hd
theorem rgA_pA {M : aM} {k n b : Nat} (h : rgA M k n b) {k' j : Nat} {v : Int32} (hv : k = k' → v = nI (nN v) ∧ nN v < b) : rgA (pA M k' j v) k n b := by
  intro i hi
  show mA (pA M k' j v) k i = nI (mA (pA M k' j v) k i).toNatClampNeg ∧ (mA (pA M k' j v) k i).toNatClampNeg < b
  rw [mA_pA]
  by_cases c : k = k' ∧ i = j
  · rw [if_pos c]; exact hv c.1
  · rw [if_neg c]; exact h i hi
theorem mIx.qA {w : Nat} {M : aM} (h : mIx w M) {k j : Nat} {v : Int32} (hv : ∀ q ∈ mIa, q.1 = k → v = nI (nN v) ∧ nN v < q.2.2) (hl : k = 20 → rgM v 300) (h1 : ¬ k = 10) (h2 : ¬ k = 7) (h3 : ¬ k = 79) (h4 : ¬ k = 81) (h5 : ¬ k = 8) : mIx w (pA M k j v) := by
  refine ⟨h.1, fun q hq => rgA_pA (h.2.1 q hq) (hv q hq), h.2.2.1, fun i => ?_, fun r hr => ?_, fun d hd => ?_⟩
  · rw [mA_pA]
    by_cases c : 20 = k ∧ i = j
    · rw [if_pos c]; exact hl c.1.symm
    · rw [if_neg c]; exact h.la i
  · have e1 : ∀ i, mA (pA M k j v) 7 i = mA M 7 i := fun i => by rw [mA_pA, if_neg (fun z => h2 z.1.symm)]
    have e2 : ∀ i, mA (pA M k j v) 10 i = mA M 10 i := fun i => by rw [mA_pA, if_neg (fun z => h1 z.1.symm)]
    have e3 : ∀ i, mA (pA M k j v) 8 i = mA M 8 i := fun i => by rw [mA_pA, if_neg (fun z => h5 z.1.symm)]
    have q := h.i6 hr
    unfold mI6 mE at q ⊢
    rw [show mA (pA M k j v) 10 r = mA M 10 r from e2 r, show mA (pA M k j v) 7 r = mA M 7 r from e1 r, show mA (pA M k j v) 8 r = mA M 8 r from e3 r]
    exact q
  · have e1 : ∀ i, mA (pA M k j v) 79 i = mA M 79 i := fun i => by rw [mA_pA, if_neg (fun z => h3 z.1.symm)]
    have e2 : ∀ i, mA (pA M k j v) 81 i = mA M 81 i := fun i => by rw [mA_pA, if_neg (fun z => h4 z.1.symm)]
    unfold mIb mE
    intro z
    have z' : mA M 79 d = 1 := (e1 d) ▸ z
    have q := h.bd hd z'
    rw [show mA (pA M k j v) 81 d = mA M 81 d from e2 d]
    exact q
/-- a row that is no index -/
def mFree (k : Nat) : Bool := !(mIa.any (fun q => q.1 == k)) && k != 20 && k != 10 && k != 7 && k != 79 && k != 81 && k != 8
theorem mIx.qF {w : Nat} {M : aM} (h : mIx w M) {k j : Nat} {v : Int32} (hk : mFree k = true) : mIx w (pA M k j v) := by
  unfold mFree at hk
  simp only [Bool.and_eq_true, Bool.not_eq_true', bne_iff_ne, ne_eq, List.any_eq_false, beq_iff_eq] at hk
  exact h.qA (fun q hq e => absurd e (hk.1.1.1.1.1.1 q hq)) (fun e => absurd e hk.1.1.1.1.1.2) hk.1.1.1.1.2 hk.1.1.1.2 hk.1.1.2 hk.1.2 hk.2
/-- a row of indices below b -/
def mRow (k b : Nat) : Bool := mIa.all (fun q => q.1 != k || q.2.2 == b) && k != 20 && k != 10 && k != 7 && k != 79 && k != 81 && k != 8
theorem mIx.qR {w : Nat} {M : aM} (h : mIx w M) {k j b x : Nat} (hk : mRow k b = true) (hx : x < b) (hb : b < 2 ^ 31) : mIx w (pA M k j (nI x)) := by
  unfold mRow at hk
  simp only [Bool.and_eq_true, bne_iff_ne, ne_eq, List.all_eq_true, Bool.or_eq_true, beq_iff_eq] at hk
  have e : nN (nI x) = x := nI_clamp (by omega)
  exact h.qA (fun q hq e' => (hk.1.1.1.1.1.1 q hq).elim (fun z => absurd e' z) (fun z => by rw [e, z]; exact ⟨rfl, hx⟩)) (fun e => absurd e hk.1.1.1.1.1.2) hk.1.1.1.1.2 hk.1.1.1.2 hk.1.1.2 hk.1.2 hk.2
theorem mIx.qRv {w : Nat} {M : aM} (h : mIx w M) {k j b : Nat} {v : Int32} (hk : mRow k b = true) (hv : v = nI (nN v) ∧ nN v < b) (hb : b < 2 ^ 31) : mIx w (pA M k j v) := by
  rw [hv.1]; exact h.qR hk hv.2 hb
theorem mIx.qLa {w : Nat} {M : aM} (h : mIx w M) {j : Nat} {v : Int32} (hv : rgM v 300) : mIx w (pA M 20 j v) := h.qA (fun q hq e => absurd e (by revert q; decide)) (fun _ => hv) (by decide) (by decide) (by decide) (by decide) (by decide)
theorem mIx.qL {w : Nat} {M : aM} (h : mIx w M) {k j : Nat} {v : Int64} (hk : ¬ k = 9) : mIx w (pL M k j v) := by
  refine ⟨h.1, h.2.1, h.2.2.1, h.2.2.2.1, fun r hr => ?_, h.2.2.2.2.2⟩
  have q := h.i6 hr
  unfold mI6 at q ⊢
  rw [mL_pL, if_neg (fun z => hk z.1.symm)]
  exact q
theorem rgS_pS {M : aM} {k b : Nat} (h : rgS M k b) {k' : Nat} {v : Int32} (hv : k = k' → v = nI (nN v) ∧ nN v ≤ b) : rgS (pS M k' v) k b := by
  show mS (pS M k' v) k = nI (mS (pS M k' v) k).toNatClampNeg ∧ (mS (pS M k' v) k).toNatClampNeg ≤ b
  rw [mS_pS]
  by_cases c : k = k'
  · rw [if_pos c]; exact hv c
  · rw [if_neg c]; exact h
theorem mIx.qS {w : Nat} {M : aM} (h : mIx w M) {k : Nat} {v : Int32} (hv : ∀ q ∈ mIs, q.1 = k → v = nI (nN v) ∧ nN v ≤ q.2) (hg : ¬ k = 48) (ha : k = 30 → mN M 48 ≤ nN v + w) : mIx w (pS M k v) := by
  refine ⟨fun q hq => rgS_pS (h.1 q hq) (hv q hq), h.2.1, ?_, h.2.2.2.1, h.2.2.2.2.1, h.2.2.2.2.2⟩
  unfold mN
  rw [mS_pS, mS_pS, if_neg (fun z => hg z.symm)]
  by_cases c : 30 = k
  · rw [if_pos c]; exact ha c.symm
  · rw [if_neg c]; exact h.ga
def mFreeS (k : Nat) : Bool := !(mIs.any (fun q => q.1 == k))
theorem mIx.qSF {w : Nat} {M : aM} (h : mIx w M) {k : Nat} {v : Int32} (hk : mFreeS k = true) : mIx w (pS M k v) := by
  unfold mFreeS at hk
  simp only [Bool.not_eq_true', List.any_eq_false, beq_iff_eq] at hk
  exact h.qS (fun q hq e => absurd e (hk q hq)) (fun e => absurd e.symm (hk (48, 300) (by decide))) (fun e => absurd e.symm (hk (30, 300) (by decide)))
def mRowS (k b : Nat) : Bool := mIs.all (fun q => q.1 != k || q.2 == b) && k != 48 && k != 30
theorem mIx.qSR {w : Nat} {M : aM} (h : mIx w M) {k b x : Nat} (hk : mRowS k b = true) (hx : x ≤ b) (hb : b < 2 ^ 31) : mIx w (pS M k (nI x)) := by
  unfold mRowS at hk
  simp only [Bool.and_eq_true, bne_iff_ne, ne_eq, List.all_eq_true, Bool.or_eq_true, beq_iff_eq] at hk
  have e : nN (nI x) = x := nI_clamp (by omega)
  exact h.qS (fun q hq e' => (hk.1.1 q hq).elim (fun z => absurd e' z) (fun z => by rw [e, z]; exact ⟨rfl, hx⟩)) hk.1.2 (fun e => absurd e hk.2)
theorem mIx.t0 {w : Nat} {M : aM} (h : mIx w M) : mIx w (mT0 M) := h.qSF (by decide)
