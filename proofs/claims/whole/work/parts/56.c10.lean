def cIntX (S : awS) (M : aM) : Prop := (∀ i, i < mN M 30 → sI S 1 i 4 = mA M 33 i) ∧
  (∀ i, i < mN M 30 → sI S 1 i 5 = mA M 34 i) ∧
  (∀ i, i < mN M 30 → sI S 1 i 9 = mA M 38 i) ∧
  (∀ i, i < mN M 30 → sI S 1 i 11 = mA M 40 i) ∧
  (∀ i, i < mN M 30 → sI S 1 i 12 = mA M 41 i) ∧
  (∀ i, i < mN M 48 → sI S 3 i 2 = mA M 51 i) ∧
  (∀ i, i < mN M 48 → sI S 3 i 3 = mA M 50 i) ∧
  (∀ i, i < mN M 63 → sI S 4 i 1 = mA M 66 i) ∧
  (∀ i, i < mN M 63 → sI S 4 i 2 = mA M 64 i) ∧
  (∀ i, i < mN M 63 → sI S 4 i 4 = mA M 69 i) ∧
  (∀ i, i < mN M 63 → sI S 4 i 5 = mA M 72 i) ∧
  (∀ i, i < mN M 63 → sI S 4 i 6 = mA M 67 i) ∧
  (∀ i, i < mN M 63 → sI S 4 i 7 = mA M 73 i) ∧
  (∀ i, i < mN M 63 → sI S 4 i 8 = mA M 74 i) ∧
  (∀ i, i < mN M 63 → sI S 4 i 9 = mA M 71 i) ∧
  (∀ i, i < mN M 6 → sI S 6 i 1 = mA M 7 i) ∧
  (∀ i, i < mN M 6 → sI S 6 i 3 = mA M 10 i) ∧
  (∀ i, i < mN M 6 → sI S 6 i 4 = mA M 11 i) ∧
  (∀ i, i < mN M 6 → sI S 6 i 5 = mA M 12 i) ∧
  (∀ i, i < mN M 6 → sI S 6 i 6 = mA M 13 i) ∧
  (∀ i, i < mN M 6 → sI S 6 i 7 = mA M 8 i) ∧
  (∀ i, i < mN M 6 → sI S 6 i 8 = mA M 14 i) ∧
  (∀ i, i < mN M 53 → sI S 7 i 0 = mA M 54 i) ∧
  (∀ i, i < mN M 53 → sI S 7 i 1 = mA M 57 i) ∧
  (∀ i, i < mN M 53 → sI S 7 i 2 = mA M 55 i) ∧
  (∀ i, i < mN M 53 → sI S 7 i 3 = mA M 56 i) ∧
  (∀ i, i < mN M 25 → sI S 8 i 0 = mA M 26 i) ∧
  (∀ i, i < mN M 25 → sI S 8 i 1 = mA M 27 i) ∧
  (∀ i, i < mN M 25 → sI S 8 i 2 = mA M 28 i) ∧
  (∀ i, i < mN M 25 → sI S 8 i 3 = mA M 29 i) ∧
  (∀ i, i < mN M 2 → sI S 9 i 1 = mA M 3 i) ∧
  (∀ i, i < mN M 58 → sI S 10 i 0 = mA M 59 i) ∧
  (∀ i, i < mN M 58 → sI S 10 i 1 = mA M 60 i) ∧
  (∀ i, i < mN M 58 → sI S 10 i 2 = mA M 61 i) ∧
  (∀ i, i < mN M 58 → sI S 10 i 3 = mA M 62 i) ∧
  (∀ i, i < 16 * mN M 6 → sI S 11 i 1 = mA M 17 i) ∧
  (∀ i, i < 16 * mN M 6 → sI S 11 i 2 = mA M 18 i) ∧
  (∀ i, i < 16 * mN M 6 → sI S 11 i 3 = mA M 19 i) ∧
  (∀ i, i < 8 → sI S 2 i 0 = mA M 79 i)
theorem cInt_x {S : awS} {M : aM} : cInt S M ↔ cIntX S M := by
  constructor
  · intro h
    exact ⟨fun i hi => h (1, 4, 33, 30) (by decide) i hi, fun i hi => h (1, 5, 34, 30) (by decide) i hi, fun i hi => h (1, 9, 38, 30) (by decide) i hi, fun i hi => h (1, 11, 40, 30) (by decide) i hi, fun i hi => h (1, 12, 41, 30) (by decide) i hi, fun i hi => h (3, 2, 51, 48) (by decide) i hi, fun i hi => h (3, 3, 50, 48) (by decide) i hi, fun i hi => h (4, 1, 66, 63) (by decide) i hi, fun i hi => h (4, 2, 64, 63) (by decide) i hi, fun i hi => h (4, 4, 69, 63) (by decide) i hi, fun i hi => h (4, 5, 72, 63) (by decide) i hi, fun i hi => h (4, 6, 67, 63) (by decide) i hi, fun i hi => h (4, 7, 73, 63) (by decide) i hi, fun i hi => h (4, 8, 74, 63) (by decide) i hi, fun i hi => h (4, 9, 71, 63) (by decide) i hi, fun i hi => h (6, 1, 7, 6) (by decide) i hi, fun i hi => h (6, 3, 10, 6) (by decide) i hi, fun i hi => h (6, 4, 11, 6) (by decide) i hi, fun i hi => h (6, 5, 12, 6) (by decide) i hi, fun i hi => h (6, 6, 13, 6) (by decide) i hi, fun i hi => h (6, 7, 8, 6) (by decide) i hi, fun i hi => h (6, 8, 14, 6) (by decide) i hi, fun i hi => h (7, 0, 54, 53) (by decide) i hi, fun i hi => h (7, 1, 57, 53) (by decide) i hi, fun i hi => h (7, 2, 55, 53) (by decide) i hi, fun i hi => h (7, 3, 56, 53) (by decide) i hi, fun i hi => h (8, 0, 26, 25) (by decide) i hi, fun i hi => h (8, 1, 27, 25) (by decide) i hi, fun i hi => h (8, 2, 28, 25) (by decide) i hi, fun i hi => h (8, 3, 29, 25) (by decide) i hi, fun i hi => h (9, 1, 3, 2) (by decide) i hi, fun i hi => h (10, 0, 59, 58) (by decide) i hi, fun i hi => h (10, 1, 60, 58) (by decide) i hi, fun i hi => h (10, 2, 61, 58) (by decide) i hi, fun i hi => h (10, 3, 62, 58) (by decide) i hi, fun i hi => h (11, 1, 17, 100) (by decide) i hi, fun i hi => h (11, 2, 18, 100) (by decide) i hi, fun i hi => h (11, 3, 19, 100) (by decide) i hi, fun i hi => h (2, 0, 79, 101) (by decide) i hi⟩
  · intro h q hq
    unfold cLk at hq
    rcases List.mem_cons.mp hq with rfl | hq
    · exact h.1
    rcases List.mem_cons.mp hq with rfl | hq
    · exact h.2.1
    rcases List.mem_cons.mp hq with rfl | hq
    · exact h.2.2.1
    rcases List.mem_cons.mp hq with rfl | hq
    · exact h.2.2.2.1
    rcases List.mem_cons.mp hq with rfl | hq
    · exact h.2.2.2.2.1
    rcases List.mem_cons.mp hq with rfl | hq
    · exact h.2.2.2.2.2.1
    rcases List.mem_cons.mp hq with rfl | hq
    · exact h.2.2.2.2.2.2.1
    rcases List.mem_cons.mp hq with rfl | hq
    · exact h.2.2.2.2.2.2.2.1
    rcases List.mem_cons.mp hq with rfl | hq
    · exact h.2.2.2.2.2.2.2.2.1
    rcases List.mem_cons.mp hq with rfl | hq
    · exact h.2.2.2.2.2.2.2.2.2.1
    rcases List.mem_cons.mp hq with rfl | hq
    · exact h.2.2.2.2.2.2.2.2.2.2.1
    rcases List.mem_cons.mp hq with rfl | hq
    · exact h.2.2.2.2.2.2.2.2.2.2.2.1
    rcases List.mem_cons.mp hq with rfl | hq
    · exact h.2.2.2.2.2.2.2.2.2.2.2.2.1
    rcases List.mem_cons.mp hq with rfl | hq
    · exact h.2.2.2.2.2.2.2.2.2.2.2.2.2.1
    rcases List.mem_cons.mp hq with rfl | hq
    · exact h.2.2.2.2.2.2.2.2.2.2.2.2.2.2.1
    rcases List.mem_cons.mp hq with rfl | hq
    · exact h.2.2.2.2.2.2.2.2.2.2.2.2.2.2.2.1
    rcases List.mem_cons.mp hq with rfl | hq
    · exact h.2.2.2.2.2.2.2.2.2.2.2.2.2.2.2.2.1
    rcases List.mem_cons.mp hq with rfl | hq
    · exact h.2.2.2.2.2.2.2.2.2.2.2.2.2.2.2.2.2.1
    rcases List.mem_cons.mp hq with rfl | hq
    · exact h.2.2.2.2.2.2.2.2.2.2.2.2.2.2.2.2.2.2.1
    rcases List.mem_cons.mp hq with rfl | hq
    · exact h.2.2.2.2.2.2.2.2.2.2.2.2.2.2.2.2.2.2.2.1
    rcases List.mem_cons.mp hq with rfl | hq
    · exact h.2.2.2.2.2.2.2.2.2.2.2.2.2.2.2.2.2.2.2.2.1
    rcases List.mem_cons.mp hq with rfl | hq
    · exact h.2.2.2.2.2.2.2.2.2.2.2.2.2.2.2.2.2.2.2.2.2.1
    rcases List.mem_cons.mp hq with rfl | hq
    · exact h.2.2.2.2.2.2.2.2.2.2.2.2.2.2.2.2.2.2.2.2.2.2.1
    rcases List.mem_cons.mp hq with rfl | hq
    · exact h.2.2.2.2.2.2.2.2.2.2.2.2.2.2.2.2.2.2.2.2.2.2.2.1
    rcases List.mem_cons.mp hq with rfl | hq
    · exact h.2.2.2.2.2.2.2.2.2.2.2.2.2.2.2.2.2.2.2.2.2.2.2.2.1
    rcases List.mem_cons.mp hq with rfl | hq
    · exact h.2.2.2.2.2.2.2.2.2.2.2.2.2.2.2.2.2.2.2.2.2.2.2.2.2.1
    rcases List.mem_cons.mp hq with rfl | hq
    · exact h.2.2.2.2.2.2.2.2.2.2.2.2.2.2.2.2.2.2.2.2.2.2.2.2.2.2.1
    rcases List.mem_cons.mp hq with rfl | hq
    · exact h.2.2.2.2.2.2.2.2.2.2.2.2.2.2.2.2.2.2.2.2.2.2.2.2.2.2.2.1
    rcases List.mem_cons.mp hq with rfl | hq
    · exact h.2.2.2.2.2.2.2.2.2.2.2.2.2.2.2.2.2.2.2.2.2.2.2.2.2.2.2.2.1
    rcases List.mem_cons.mp hq with rfl | hq
    · exact h.2.2.2.2.2.2.2.2.2.2.2.2.2.2.2.2.2.2.2.2.2.2.2.2.2.2.2.2.2.1
    rcases List.mem_cons.mp hq with rfl | hq
    · exact h.2.2.2.2.2.2.2.2.2.2.2.2.2.2.2.2.2.2.2.2.2.2.2.2.2.2.2.2.2.2.1
    rcases List.mem_cons.mp hq with rfl | hq
    · exact h.2.2.2.2.2.2.2.2.2.2.2.2.2.2.2.2.2.2.2.2.2.2.2.2.2.2.2.2.2.2.2.1
    rcases List.mem_cons.mp hq with rfl | hq
    · exact h.2.2.2.2.2.2.2.2.2.2.2.2.2.2.2.2.2.2.2.2.2.2.2.2.2.2.2.2.2.2.2.2.1
    rcases List.mem_cons.mp hq with rfl | hq
    · exact h.2.2.2.2.2.2.2.2.2.2.2.2.2.2.2.2.2.2.2.2.2.2.2.2.2.2.2.2.2.2.2.2.2.1
    rcases List.mem_cons.mp hq with rfl | hq
    · exact h.2.2.2.2.2.2.2.2.2.2.2.2.2.2.2.2.2.2.2.2.2.2.2.2.2.2.2.2.2.2.2.2.2.2.1
    rcases List.mem_cons.mp hq with rfl | hq
    · exact h.2.2.2.2.2.2.2.2.2.2.2.2.2.2.2.2.2.2.2.2.2.2.2.2.2.2.2.2.2.2.2.2.2.2.2.1
    rcases List.mem_cons.mp hq with rfl | hq
    · exact h.2.2.2.2.2.2.2.2.2.2.2.2.2.2.2.2.2.2.2.2.2.2.2.2.2.2.2.2.2.2.2.2.2.2.2.2.1
    rcases List.mem_cons.mp hq with rfl | hq
    · exact h.2.2.2.2.2.2.2.2.2.2.2.2.2.2.2.2.2.2.2.2.2.2.2.2.2.2.2.2.2.2.2.2.2.2.2.2.2.1
    rcases List.mem_cons.mp hq with rfl | hq
    · exact h.2.2.2.2.2.2.2.2.2.2.2.2.2.2.2.2.2.2.2.2.2.2.2.2.2.2.2.2.2.2.2.2.2.2.2.2.2.2
    cases hq
def cCntX (S : awS) (M : aM) : Prop := sC S 9 = 1 * mN M 2 ∧ sC S 16 = 1 * mN M 2 ∧ sC S 17 = 1 * mN M 2 ∧ sC S 6 = 1 * mN M 6 ∧ sC S 18 = 1 * mN M 6 ∧ sC S 19 = 1 * mN M 6 ∧ sC S 20 = 1 * mN M 6 ∧ sC S 21 = 1 * mN M 6 ∧ sC S 11 = 16 * mN M 6 ∧ sC S 22 = 16 * mN M 6 ∧ sC S 8 = 1 * mN M 25 ∧ sC S 1 = 1 * mN M 30 ∧ sC S 3 = 1 * mN M 48 ∧ sC S 4 = 1 * mN M 63 ∧ sC S 23 = 1 * mN M 63 ∧ sC S 24 = 1 * mN M 63
theorem cCnt_x {S : awS} {M : aM} : (∀ q ∈ cCl, sC S q.1 = q.2.1 * mN M q.2.2) ↔ cCntX S M := by
  constructor
  · intro h
    exact ⟨h (9, 1, 2) (by decide), h (16, 1, 2) (by decide), h (17, 1, 2) (by decide), h (6, 1, 6) (by decide), h (18, 1, 6) (by decide), h (19, 1, 6) (by decide), h (20, 1, 6) (by decide), h (21, 1, 6) (by decide), h (11, 16, 6) (by decide), h (22, 16, 6) (by decide), h (8, 1, 25) (by decide), h (1, 1, 30) (by decide), h (3, 1, 48) (by decide), h (4, 1, 63) (by decide), h (23, 1, 63) (by decide), h (24, 1, 63) (by decide)⟩
  · intro h q hq
    unfold cCl at hq
    rcases List.mem_cons.mp hq with rfl | hq
    · exact h.1
    rcases List.mem_cons.mp hq with rfl | hq
    · exact h.2.1
    rcases List.mem_cons.mp hq with rfl | hq
    · exact h.2.2.1
    rcases List.mem_cons.mp hq with rfl | hq
    · exact h.2.2.2.1
    rcases List.mem_cons.mp hq with rfl | hq
    · exact h.2.2.2.2.1
    rcases List.mem_cons.mp hq with rfl | hq
    · exact h.2.2.2.2.2.1
    rcases List.mem_cons.mp hq with rfl | hq
    · exact h.2.2.2.2.2.2.1
    rcases List.mem_cons.mp hq with rfl | hq
    · exact h.2.2.2.2.2.2.2.1
    rcases List.mem_cons.mp hq with rfl | hq
    · exact h.2.2.2.2.2.2.2.2.1
    rcases List.mem_cons.mp hq with rfl | hq
    · exact h.2.2.2.2.2.2.2.2.2.1
    rcases List.mem_cons.mp hq with rfl | hq
    · exact h.2.2.2.2.2.2.2.2.2.2.1
    rcases List.mem_cons.mp hq with rfl | hq
    · exact h.2.2.2.2.2.2.2.2.2.2.2.1
    rcases List.mem_cons.mp hq with rfl | hq
    · exact h.2.2.2.2.2.2.2.2.2.2.2.2.1
    rcases List.mem_cons.mp hq with rfl | hq
    · exact h.2.2.2.2.2.2.2.2.2.2.2.2.2.1
    rcases List.mem_cons.mp hq with rfl | hq
    · exact h.2.2.2.2.2.2.2.2.2.2.2.2.2.2.1
    rcases List.mem_cons.mp hq with rfl | hq
    · exact h.2.2.2.2.2.2.2.2.2.2.2.2.2.2.2
    cases hq
section CTR
variable {τ : Nat → Nat → Nat} {S : awS} {M : aM}
theorem cR.ix (h : cR τ S M) : cIntX S M := cInt_x.mp h.2.2.2.2.2.2.2.2.2.1
theorem cR.cx (h : cR τ S M) : cCntX S M := cCnt_x.mp h.cnt.1
theorem cR.mk' (h1 : mIx 0 M) (h2 : cTow S) (h3 : cLst S M) (h4 : cCntX S M) (h5 : cShp (mN M 53) (sC S 7) 40) (h6 : cShp (mN M 58) (sC S 10) 20) (h7 : cSrc S M) (h8 : cRul S M) (h9 : cAla S M) (h10 : cLet S M) (h11 : cBrd S) (h12 : cIntX S M) (h13 : cLa S M) (h14 : cSca S M) (h15 : cVal S M) (h16 : cRef S M) (h17 : cWat S M) (h18 : cFlg S M) (h19 : cTru τ S M) (h20 : cHld S M) (h21 : cLea τ S M) (h22 : cRow S M) (h23 : cBdr S M) (h24 : cInv τ M) : cR τ S M :=
  ⟨h1, h2, h3, ⟨cCnt_x.mpr h4, h5, h6⟩, h7, h8, h9, h10, h11, cInt_x.mpr h12, h13, h14, h15, h16, h17, h18, h19, h20, h21, h22, h23, h24⟩
/-- the reference's scratch changes -/
theorem cR.mc (h : cR τ S M) {M' : aM} (hI : mIx 0 M') (hS : ∀ k, ¬ k = 0 → ¬ k = 78 → mS M' k = mS M k) (hA : ∀ k j, ¬ k = 76 → ¬ k = 77 → ¬ k = 75 → mA M' k j = mA M k j) (hL : ∀ k j, ¬ k = 83 → mL M' k j = mL M k j) : cR τ S M' := by
  have e : M' = (fun k => if k = 0 ∨ k = 78 then M'.1 k else M.1 k, fun k j => if k = 76 ∨ k = 77 ∨ k = 75 then M'.2.1 k j else M.2.1 k j, fun k j => if k = 83 then M'.2.2 k j else M.2.2 k j) := by
    obtain ⟨a, b, c⟩ := M'
    refine Prod.ext ?_ (Prod.ext ?_ ?_)
    · funext k
      show a k = if k = 0 ∨ k = 78 then a k else M.1 k
      by_cases q : k = 0 ∨ k = 78
      · rw [if_pos q]
      · rw [if_neg q]; exact hS k (fun z => q (Or.inl z)) (fun z => q (Or.inr z))
    · funext k j
      show b k j = if k = 76 ∨ k = 77 ∨ k = 75 then b k j else M.2.1 k j
      by_cases q : k = 76 ∨ k = 77 ∨ k = 75
      · rw [if_pos q]
      · rw [if_neg q]; exact hA k j (fun z => q (Or.inl z)) (fun z => q (Or.inr (Or.inl z))) (fun z => q (Or.inr (Or.inr z)))
    · funext k j
      show c k j = if k = 83 then c k j else M.2.2 k j
      by_cases q : k = 83
      · rw [if_pos q]
      · rw [if_neg q]; exact hL k j q
  rw [e] at hI ⊢
  exact cR.mk' hI h.tow h.lst h.cx h.cnt.2.1 h.cnt.2.2 h.src h.rul h.ala h.ltr h.brd h.ix h.la h.sca h.val h.ref h.wat h.flg h.tru h.hld h.lea h.row h.bdr h.inv
theorem cR.t0 (h : cR τ S M) : cR τ S (mT0 M) := h.mc h.mI.t0 (fun k h1 _ => if_neg h1) (fun _ _ _ _ _ => rfl) (fun _ _ _ => rfl)
/-- the class's scratch changes -/
theorem cR.sc (h : cR τ S M) {S' : awS} (hT : S'.2 = S.2) (hS : ∀ f i k, ¬ f = 26 → ¬ f = 27 → ¬ f = 28 → sI S' f i k = sI S f i k) : cR τ S' M := by
  have e : S' = (fun f i k => if f = 26 ∨ f = 27 ∨ f = 28 then S'.1 f i k else S.1 f i k, S.2) := by
    obtain ⟨I, T⟩ := S'
    refine Prod.ext ?_ hT
    funext f i k
    show I f i k = if f = 26 ∨ f = 27 ∨ f = 28 then I f i k else S.1 f i k
    by_cases q : f = 26 ∨ f = 27 ∨ f = 28
    · rw [if_pos q]
    · rw [if_neg q]; exact hS f i k (fun z => q (Or.inl z)) (fun z => q (Or.inr (Or.inl z))) (fun z => q (Or.inr (Or.inr z)))
  rw [e]
  exact cR.mk' h.mI h.tow h.lst h.cx h.cnt.2.1 h.cnt.2.2 h.src h.rul h.ala h.ltr h.brd h.ix h.la h.sca h.val h.ref h.wat h.flg h.tru h.hld h.lea h.row h.bdr h.inv
theorem cR.hO (h : cR τ S M) : hndOk M := ⟨h.nH, mS_b h.mI (by decide), mS_b h.mI (by decide), fun k hk => ⟨⟨(h.mI.A (k := 54) (n := 40) (b := 8) (by decide) (Nat.lt_of_lt_of_le hk (mS_b h.mI (by decide)))).1, h.inv.2.2.2.2.2.2.2.2.2.1 k hk⟩, h.mI.A (k := 55) (n := 40) (b := 48) (by decide) (Nat.lt_of_lt_of_le hk (mS_b h.mI (by decide))), h.mI.A (k := 56) (n := 40) (b := 49) (by decide) (Nat.lt_of_lt_of_le hk (mS_b h.mI (by decide)))⟩, fun k hk => ⟨⟨(h.mI.A (k := 59) (n := 20) (b := 8) (by decide) (Nat.lt_of_lt_of_le hk (mS_b h.mI (by decide)))).1, (h.inv.2.2.2.2.2.2.2.2.2.2.1 k hk).1⟩, (h.mI.A (k := 60) (n := 20) (b := 8) (by decide) (Nat.lt_of_lt_of_le hk (mS_b h.mI (by decide)))).1, (h.inv.2.2.2.2.2.2.2.2.2.2.1 k hk).2⟩⟩
theorem cR.ros (h : cR τ S M) : rosOk S M := ⟨h.tow.2.2.2.2.1, h.tow.2.2.2.2.2.1, h.tow.2.2.2.2.2.2.1, h.tow.2.2.2.2.2.2.2.1, h.tow.2.2.2.2.2.2.2.2.1, h.tow.2.2.2.2.2.2.2.2.2.1, h.lq (q := 7) (by decide), h.lq (q := 8) (by decide), h.eH, h.lst.2.2.2.2.2.2.2.1, h.lst.2.2.2.2.2.2.2.2⟩
theorem cR.swp (h : cR τ S M) : swpOk S M := fun k hk => ⟨h.int (f := 10) (k := 0) (m := 59) (q := 58) (by decide) hk, h.int (f := 10) (k := 1) (m := 60) (q := 58) (by decide) hk, h.int (f := 10) (k := 2) (m := 61) (q := 58) (by decide) hk, h.int (f := 10) (k := 3) (m := 62) (q := 58) (by decide) hk⟩
theorem cR.sft (h : cR τ S M) : sftOk S M := fun k hk => ⟨h.int (f := 7) (k := 0) (m := 54) (q := 53) (by decide) hk, h.int (f := 7) (k := 1) (m := 57) (q := 53) (by decide) hk, h.int (f := 7) (k := 2) (m := 55) (q := 53) (by decide) hk, h.int (f := 7) (k := 3) (m := 56) (q := 53) (by decide) hk⟩
end CTR

