/-- the store without the letters from l on -/
def vS (S : awS) (l : Nat) : awS := (S.1, S.2.1, S.2.2.1, fun f => if f = 4 ∨ f = 23 ∨ f = 24 then l else S.2.2.2.1 f, S.2.2.2.2.1, S.2.2.2.2.2)
/-- only letters from l on differ -/
def ltE (l : Nat) (S S1 : awS) : Prop := (∀ f i j, ¬ ((f = 4 ∨ f = 23 ∨ f = 24) ∧ l ≤ i) → sI S1 f i j = sI S f i j ∧ sL S1 f i j = sL S f i j ∧ sR S1 f i j = sR S f i j) ∧ (∀ f i, ¬ ((f = 4 ∨ f = 23 ∨ f = 24) ∧ l ≤ i) → sN S1 f i = sN S f i) ∧ (∀ f, ¬ (f = 4 ∨ f = 23 ∨ f = 24) → sC S1 f = sC S f) ∧ ∀ q, sK S1 q = sK S q
theorem ltE.rf {l : Nat} {S : awS} : ltE l S S := ⟨fun _ _ _ _ => ⟨rfl, rfl, rfl⟩, fun _ _ _ => rfl, fun _ _ => rfl, fun _ => rfl⟩
theorem ltE.tr {l : Nat} {S S1 S2 : awS} (h : ltE l S S1) (h' : ltE l S1 S2) : ltE l S S2 := ⟨fun f i j q => ⟨(h'.1 f i j q).1.trans (h.1 f i j q).1, (h'.1 f i j q).2.1.trans (h.1 f i j q).2.1, (h'.1 f i j q).2.2.trans (h.1 f i j q).2.2⟩, fun f i q => (h'.2.1 f i q).trans (h.2.1 f i q), fun f q => (h'.2.2.1 f q).trans (h.2.2.1 f q), fun q => (h'.2.2.2 q).trans (h.2.2.2 q)⟩
theorem ltE.wI {l : Nat} {S : awS} {f i j : Nat} {v : Int32} (h : (f = 4 ∨ f = 23 ∨ f = 24) ∧ l ≤ i) : ltE l S (wI S f i j v) := ⟨fun f' i' j' q => ⟨by rw [sI_wI, if_neg (fun z => q (by rw [z.1, z.2.1]; exact h))], rfl, rfl⟩, fun _ _ _ => rfl, fun _ _ => rfl, fun _ => rfl⟩
theorem ltE.wR {l : Nat} {S : awS} {f i j : Nat} {v : Option Nat} (h : (f = 4 ∨ f = 23 ∨ f = 24) ∧ l ≤ i) : ltE l S (wR S f i j v) := ⟨fun f' i' j' q => ⟨rfl, rfl, by rw [sR_wR, if_neg (fun z => q (by rw [z.1, z.2.1]; exact h))]⟩, fun _ _ _ => rfl, fun _ _ => rfl, fun _ => rfl⟩
theorem ltE.wN {l : Nat} {S : awS} {f n : Nat} (h : f = 4 ∨ f = 23 ∨ f = 24) (hc : sC S f = l) : ltE l S (wNew S f n) := by
  have e : ∀ f' i', ¬ ((f' = 4 ∨ f' = 23 ∨ f' = 24) ∧ l ≤ i') → ¬ (f' = f ∧ i' = sC S f) := fun f' i' q z => q ⟨by rw [z.1]; exact h, by rw [z.2, hc]; exact Nat.le_refl l⟩
  exact ⟨fun f' i' j' q => ⟨by rw [sI_wN, if_neg (e f' i' q)], by rw [sL_wN, if_neg (e f' i' q)], by rw [sR_wN, if_neg (e f' i' q)]⟩, fun f' i' q => by rw [sN_wN, if_neg (e f' i' q)], fun f' q => by rw [sC_wN, if_neg (fun z => q (by rw [z]; exact h))], fun _ => rfl⟩
theorem vS_e {l : Nat} {S S1 : awS} (h : ltE l S S1) : vS S1 l = (fun f i j => if (f = 4 ∨ f = 23 ∨ f = 24) ∧ l ≤ i then S1.1 f i j else S.1 f i j, fun f i j => if (f = 4 ∨ f = 23 ∨ f = 24) ∧ l ≤ i then S1.2.1 f i j else S.2.1 f i j, fun f i j => if (f = 4 ∨ f = 23 ∨ f = 24) ∧ l ≤ i then S1.2.2.1 f i j else S.2.2.1 f i j, fun f => if f = 4 ∨ f = 23 ∨ f = 24 then l else S.2.2.2.1 f, fun f i => if (f = 4 ∨ f = 23 ∨ f = 24) ∧ l ≤ i then S1.2.2.2.2.1 f i else S.2.2.2.2.1 f i, S.2.2.2.2.2) := by
  unfold vS
  refine Prod.ext ?_ (Prod.ext ?_ (Prod.ext ?_ (Prod.ext ?_ (Prod.ext ?_ ?_))))
  · funext f i j
    dsimp only
    by_cases c : (f = 4 ∨ f = 23 ∨ f = 24) ∧ l ≤ i
    · rw [if_pos c]
    · rw [if_neg c]; exact (h.1 f i j c).1
  · funext f i j
    dsimp only
    by_cases c : (f = 4 ∨ f = 23 ∨ f = 24) ∧ l ≤ i
    · rw [if_pos c]
    · rw [if_neg c]; exact (h.1 f i j c).2.1
  · funext f i j
    dsimp only
    by_cases c : (f = 4 ∨ f = 23 ∨ f = 24) ∧ l ≤ i
    · rw [if_pos c]
    · rw [if_neg c]; exact (h.1 f i j c).2.2
  · funext f
    dsimp only
    by_cases c : f = 4 ∨ f = 23 ∨ f = 24
    · rw [if_pos c, if_pos c]
    · rw [if_neg c, if_neg c]; exact h.2.2.1 f c
  · funext f i
    dsimp only
    by_cases c : (f = 4 ∨ f = 23 ∨ f = 24) ∧ l ≤ i
    · rw [if_pos c]
    · rw [if_neg c]; exact h.2.1 f i c
  · funext q
    exact h.2.2.2 q

set_option maxHeartbeats 1000000 in
theorem cR.lt {τ : Nat → Nat → Nat} {S S1 : awS} {M : aM} {l : Nat} (R : cR τ S M) (hl : mN M 63 = l) (h : ltE l S S1) : cR τ (vS S1 l) M := by
  have en : ∀ f i, i < mN M 63 → ¬ ((f = 4 ∨ f = 23 ∨ f = 24) ∧ l ≤ i) := fun f i hi z => by omega
  rw [vS_e h]
  refine cR.mk' R.mI (R.tow.cg (fun _ => rfl) (fun _ => rfl) rfl rfl rfl (fun q hq => if_neg (by omega))) R.lst (⟨R.cx.1, R.cx.2.1, R.cx.2.2.1, R.cx.2.2.2.1, R.cx.2.2.2.2.1, R.cx.2.2.2.2.2.1, R.cx.2.2.2.2.2.2.1, R.cx.2.2.2.2.2.2.2.1, R.cx.2.2.2.2.2.2.2.2.1, R.cx.2.2.2.2.2.2.2.2.2.1, R.cx.2.2.2.2.2.2.2.2.2.2.1, R.cx.2.2.2.2.2.2.2.2.2.2.2.1, R.cx.2.2.2.2.2.2.2.2.2.2.2.2.1, ?_, ?_, ?_⟩) R.cnt.2.1 R.cnt.2.2 R.src R.rul R.ala (?_) R.brd (⟨R.ix.1, R.ix.2.1, R.ix.2.2.1, R.ix.2.2.2.1, R.ix.2.2.2.2.1, R.ix.2.2.2.2.2.1, R.ix.2.2.2.2.2.2.1, fun i hi => by
    have q := R.int (f := 4) (k := 1) (m := 66) (q := 63) (by decide) hi
    have hi : i < mN M 63 := hi
    have e : ¬ l ≤ i := by omega
    show (if (4 = 4 ∨ 4 = 23 ∨ 4 = 24) ∧ l ≤ i then S1.1 4 i 1 else S.1 4 i 1) = _
    rw [if_neg (fun z => e z.2)]
    exact q, fun i hi => by
    have q := R.int (f := 4) (k := 2) (m := 64) (q := 63) (by decide) hi
    have hi : i < mN M 63 := hi
    have e : ¬ l ≤ i := by omega
    show (if (4 = 4 ∨ 4 = 23 ∨ 4 = 24) ∧ l ≤ i then S1.1 4 i 2 else S.1 4 i 2) = _
    rw [if_neg (fun z => e z.2)]
    exact q, fun i hi => by
    have q := R.int (f := 4) (k := 4) (m := 69) (q := 63) (by decide) hi
    have hi : i < mN M 63 := hi
    have e : ¬ l ≤ i := by omega
    show (if (4 = 4 ∨ 4 = 23 ∨ 4 = 24) ∧ l ≤ i then S1.1 4 i 4 else S.1 4 i 4) = _
    rw [if_neg (fun z => e z.2)]
    exact q, fun i hi => by
    have q := R.int (f := 4) (k := 5) (m := 72) (q := 63) (by decide) hi
    have hi : i < mN M 63 := hi
    have e : ¬ l ≤ i := by omega
    show (if (4 = 4 ∨ 4 = 23 ∨ 4 = 24) ∧ l ≤ i then S1.1 4 i 5 else S.1 4 i 5) = _
    rw [if_neg (fun z => e z.2)]
    exact q, fun i hi => by
    have q := R.int (f := 4) (k := 6) (m := 67) (q := 63) (by decide) hi
    have hi : i < mN M 63 := hi
    have e : ¬ l ≤ i := by omega
    show (if (4 = 4 ∨ 4 = 23 ∨ 4 = 24) ∧ l ≤ i then S1.1 4 i 6 else S.1 4 i 6) = _
    rw [if_neg (fun z => e z.2)]
    exact q, fun i hi => by
    have q := R.int (f := 4) (k := 7) (m := 73) (q := 63) (by decide) hi
    have hi : i < mN M 63 := hi
    have e : ¬ l ≤ i := by omega
    show (if (4 = 4 ∨ 4 = 23 ∨ 4 = 24) ∧ l ≤ i then S1.1 4 i 7 else S.1 4 i 7) = _
    rw [if_neg (fun z => e z.2)]
    exact q, fun i hi => by
    have q := R.int (f := 4) (k := 8) (m := 74) (q := 63) (by decide) hi
    have hi : i < mN M 63 := hi
    have e : ¬ l ≤ i := by omega
    show (if (4 = 4 ∨ 4 = 23 ∨ 4 = 24) ∧ l ≤ i then S1.1 4 i 8 else S.1 4 i 8) = _
    rw [if_neg (fun z => e z.2)]
    exact q, fun i hi => by
    have q := R.int (f := 4) (k := 9) (m := 71) (q := 63) (by decide) hi
    have hi : i < mN M 63 := hi
    have e : ¬ l ≤ i := by omega
    show (if (4 = 4 ∨ 4 = 23 ∨ 4 = 24) ∧ l ≤ i then S1.1 4 i 9 else S.1 4 i 9) = _
    rw [if_neg (fun z => e z.2)]
    exact q, R.ix.2.2.2.2.2.2.2.2.2.2.2.2.2.2.2.1, R.ix.2.2.2.2.2.2.2.2.2.2.2.2.2.2.2.2.1, R.ix.2.2.2.2.2.2.2.2.2.2.2.2.2.2.2.2.2.1, R.ix.2.2.2.2.2.2.2.2.2.2.2.2.2.2.2.2.2.2.1, R.ix.2.2.2.2.2.2.2.2.2.2.2.2.2.2.2.2.2.2.2.1, R.ix.2.2.2.2.2.2.2.2.2.2.2.2.2.2.2.2.2.2.2.2.1, R.ix.2.2.2.2.2.2.2.2.2.2.2.2.2.2.2.2.2.2.2.2.2.1, R.ix.2.2.2.2.2.2.2.2.2.2.2.2.2.2.2.2.2.2.2.2.2.2.1, R.ix.2.2.2.2.2.2.2.2.2.2.2.2.2.2.2.2.2.2.2.2.2.2.2.1, R.ix.2.2.2.2.2.2.2.2.2.2.2.2.2.2.2.2.2.2.2.2.2.2.2.2.1, R.ix.2.2.2.2.2.2.2.2.2.2.2.2.2.2.2.2.2.2.2.2.2.2.2.2.2.1, R.ix.2.2.2.2.2.2.2.2.2.2.2.2.2.2.2.2.2.2.2.2.2.2.2.2.2.2.1, R.ix.2.2.2.2.2.2.2.2.2.2.2.2.2.2.2.2.2.2.2.2.2.2.2.2.2.2.2.1, R.ix.2.2.2.2.2.2.2.2.2.2.2.2.2.2.2.2.2.2.2.2.2.2.2.2.2.2.2.2.1, R.ix.2.2.2.2.2.2.2.2.2.2.2.2.2.2.2.2.2.2.2.2.2.2.2.2.2.2.2.2.2.1, R.ix.2.2.2.2.2.2.2.2.2.2.2.2.2.2.2.2.2.2.2.2.2.2.2.2.2.2.2.2.2.2.1, R.ix.2.2.2.2.2.2.2.2.2.2.2.2.2.2.2.2.2.2.2.2.2.2.2.2.2.2.2.2.2.2.2.1, R.ix.2.2.2.2.2.2.2.2.2.2.2.2.2.2.2.2.2.2.2.2.2.2.2.2.2.2.2.2.2.2.2.2.1, R.ix.2.2.2.2.2.2.2.2.2.2.2.2.2.2.2.2.2.2.2.2.2.2.2.2.2.2.2.2.2.2.2.2.2.1, R.ix.2.2.2.2.2.2.2.2.2.2.2.2.2.2.2.2.2.2.2.2.2.2.2.2.2.2.2.2.2.2.2.2.2.2.1, R.ix.2.2.2.2.2.2.2.2.2.2.2.2.2.2.2.2.2.2.2.2.2.2.2.2.2.2.2.2.2.2.2.2.2.2.2.1, R.ix.2.2.2.2.2.2.2.2.2.2.2.2.2.2.2.2.2.2.2.2.2.2.2.2.2.2.2.2.2.2.2.2.2.2.2.2.1, R.ix.2.2.2.2.2.2.2.2.2.2.2.2.2.2.2.2.2.2.2.2.2.2.2.2.2.2.2.2.2.2.2.2.2.2.2.2.2.1, R.ix.2.2.2.2.2.2.2.2.2.2.2.2.2.2.2.2.2.2.2.2.2.2.2.2.2.2.2.2.2.2.2.2.2.2.2.2.2.2⟩) R.la R.sca R.val (⟨R.ref.1, R.ref.2.1, ?_⟩) R.wat R.flg R.tru R.hld R.lea (?_) R.bdr R.inv
  · show l = 1 * mN M 63
    omega
  · show l = 1 * mN M 63
    omega
  · show l = 1 * mN M 63
    omega
  · intro i hi
    obtain ⟨q1, q2, q3, q4⟩ := R.ltr i hi
    exact ⟨(if_neg (en 4 i hi)).trans q1, (if_neg (en 4 i hi)).trans q2, (if_neg (en 23 i hi)).trans q3, (if_neg (en 24 i hi)).trans q4⟩
  · intro i hi
    exact (if_neg (en 4 i hi)).trans (R.ref.2.2 i hi)
  · intro i hi
    obtain ⟨q1, q2⟩ := R.row i hi
    exact ⟨fun j hj => (if_neg (en 23 i hi)).trans (q1 j hj), fun j hj => (if_neg (en 24 i hi)).trans (q2 j hj)⟩

/-- a row of the letters, from l on -/
abbrev ltK (l k j : Nat) : Prop := (64 ≤ k ∧ k ≤ 74) ∧ (if k = 68 then 40 * l else if k = 70 then 8 * l else l) ≤ j
def ltM (l : Nat) (M N : aM) : Prop := N.1 = M.1 ∧ (∀ k j, ¬ ltK l k j → mA N k j = mA M k j) ∧ N.2.2 = M.2.2
theorem ltM.rf {l : Nat} {M : aM} : ltM l M M := ⟨rfl, fun _ _ _ => rfl, rfl⟩
theorem ltM.tr {l : Nat} {M N K : aM} (h : ltM l M N) (h' : ltM l N K) : ltM l M K := ⟨h'.1.trans h.1, fun k j q => (h'.2.1 k j q).trans (h.2.1 k j q), h'.2.2.trans h.2.2⟩
theorem ltM.w {l : Nat} {M : aM} {k j : Nat} {v : Int32} (h : ltK l k j) : ltM l M (pA M k j v) := ⟨rfl, fun k' j' q => by rw [mA_pA, if_neg (fun z => q (by rw [z.1, z.2]; exact h))], rfl⟩
theorem ltM_e {l : Nat} {M N : aM} (h : ltM l M N) : N = (M.1, fun k j => if ltK l k j then N.2.1 k j else M.2.1 k j, M.2.2) := by
  obtain ⟨a, b, c⟩ := N
  refine Prod.ext h.1 (Prod.ext ?_ h.2.2)
  funext k j
  show b k j = if ltK l k j then b k j else M.2.1 k j
  by_cases c : ltK l k j
  · rw [if_pos c]
  · rw [if_neg c]; exact h.2.1 k j c

set_option maxHeartbeats 1000000 in
theorem cR.lm {τ : Nat → Nat → Nat} {S : awS} {M N : aM} {l : Nat} (R : cR τ S M) (hl : mN M 63 = l) (h : ltM l M N) (hI : mIx 0 N) : cR τ S N := by
  have nk : ∀ k i, ¬ k = 68 → ¬ k = 70 → i < mN M 63 → ¬ ltK l k i := fun k i h1 h2 hi z => by
    have z2 := z.2
    rw [if_neg h1, if_neg h2] at z2
    omega
  rw [ltM_e h] at hI ⊢
  refine cR.mk' (hI) R.tow R.lst R.cx R.cnt.2.1 R.cnt.2.2 R.src R.rul R.ala R.ltr R.brd (⟨R.ix.1, R.ix.2.1, R.ix.2.2.1, R.ix.2.2.2.1, R.ix.2.2.2.2.1, R.ix.2.2.2.2.2.1, R.ix.2.2.2.2.2.2.1, fun i hi => by
    have q := R.int (f := 4) (k := 1) (m := 66) (q := 63) (by decide) hi
    have hi : i < mN M 63 := hi
    show _ = (if ltK l 66 i then N.2.1 66 i else M.2.1 66 i)
    rw [if_neg (nk 66 i (by decide) (by decide) hi)]
    exact q, fun i hi => by
    have q := R.int (f := 4) (k := 2) (m := 64) (q := 63) (by decide) hi
    have hi : i < mN M 63 := hi
    show _ = (if ltK l 64 i then N.2.1 64 i else M.2.1 64 i)
    rw [if_neg (nk 64 i (by decide) (by decide) hi)]
    exact q, fun i hi => by
    have q := R.int (f := 4) (k := 4) (m := 69) (q := 63) (by decide) hi
    have hi : i < mN M 63 := hi
    show _ = (if ltK l 69 i then N.2.1 69 i else M.2.1 69 i)
    rw [if_neg (nk 69 i (by decide) (by decide) hi)]
    exact q, fun i hi => by
    have q := R.int (f := 4) (k := 5) (m := 72) (q := 63) (by decide) hi
    have hi : i < mN M 63 := hi
    show _ = (if ltK l 72 i then N.2.1 72 i else M.2.1 72 i)
    rw [if_neg (nk 72 i (by decide) (by decide) hi)]
    exact q, fun i hi => by
    have q := R.int (f := 4) (k := 6) (m := 67) (q := 63) (by decide) hi
    have hi : i < mN M 63 := hi
    show _ = (if ltK l 67 i then N.2.1 67 i else M.2.1 67 i)
    rw [if_neg (nk 67 i (by decide) (by decide) hi)]
    exact q, fun i hi => by
    have q := R.int (f := 4) (k := 7) (m := 73) (q := 63) (by decide) hi
    have hi : i < mN M 63 := hi
    show _ = (if ltK l 73 i then N.2.1 73 i else M.2.1 73 i)
    rw [if_neg (nk 73 i (by decide) (by decide) hi)]
    exact q, fun i hi => by
    have q := R.int (f := 4) (k := 8) (m := 74) (q := 63) (by decide) hi
    have hi : i < mN M 63 := hi
    show _ = (if ltK l 74 i then N.2.1 74 i else M.2.1 74 i)
    rw [if_neg (nk 74 i (by decide) (by decide) hi)]
    exact q, fun i hi => by
    have q := R.int (f := 4) (k := 9) (m := 71) (q := 63) (by decide) hi
    have hi : i < mN M 63 := hi
    show _ = (if ltK l 71 i then N.2.1 71 i else M.2.1 71 i)
    rw [if_neg (nk 71 i (by decide) (by decide) hi)]
    exact q, R.ix.2.2.2.2.2.2.2.2.2.2.2.2.2.2.2.1, R.ix.2.2.2.2.2.2.2.2.2.2.2.2.2.2.2.2.1, R.ix.2.2.2.2.2.2.2.2.2.2.2.2.2.2.2.2.2.1, R.ix.2.2.2.2.2.2.2.2.2.2.2.2.2.2.2.2.2.2.1, R.ix.2.2.2.2.2.2.2.2.2.2.2.2.2.2.2.2.2.2.2.1, R.ix.2.2.2.2.2.2.2.2.2.2.2.2.2.2.2.2.2.2.2.2.1, R.ix.2.2.2.2.2.2.2.2.2.2.2.2.2.2.2.2.2.2.2.2.2.1, R.ix.2.2.2.2.2.2.2.2.2.2.2.2.2.2.2.2.2.2.2.2.2.2.1, R.ix.2.2.2.2.2.2.2.2.2.2.2.2.2.2.2.2.2.2.2.2.2.2.2.1, R.ix.2.2.2.2.2.2.2.2.2.2.2.2.2.2.2.2.2.2.2.2.2.2.2.2.1, R.ix.2.2.2.2.2.2.2.2.2.2.2.2.2.2.2.2.2.2.2.2.2.2.2.2.2.1, R.ix.2.2.2.2.2.2.2.2.2.2.2.2.2.2.2.2.2.2.2.2.2.2.2.2.2.2.1, R.ix.2.2.2.2.2.2.2.2.2.2.2.2.2.2.2.2.2.2.2.2.2.2.2.2.2.2.2.1, R.ix.2.2.2.2.2.2.2.2.2.2.2.2.2.2.2.2.2.2.2.2.2.2.2.2.2.2.2.2.1, R.ix.2.2.2.2.2.2.2.2.2.2.2.2.2.2.2.2.2.2.2.2.2.2.2.2.2.2.2.2.2.1, R.ix.2.2.2.2.2.2.2.2.2.2.2.2.2.2.2.2.2.2.2.2.2.2.2.2.2.2.2.2.2.2.1, R.ix.2.2.2.2.2.2.2.2.2.2.2.2.2.2.2.2.2.2.2.2.2.2.2.2.2.2.2.2.2.2.2.1, R.ix.2.2.2.2.2.2.2.2.2.2.2.2.2.2.2.2.2.2.2.2.2.2.2.2.2.2.2.2.2.2.2.2.1, R.ix.2.2.2.2.2.2.2.2.2.2.2.2.2.2.2.2.2.2.2.2.2.2.2.2.2.2.2.2.2.2.2.2.2.1, R.ix.2.2.2.2.2.2.2.2.2.2.2.2.2.2.2.2.2.2.2.2.2.2.2.2.2.2.2.2.2.2.2.2.2.2.1, R.ix.2.2.2.2.2.2.2.2.2.2.2.2.2.2.2.2.2.2.2.2.2.2.2.2.2.2.2.2.2.2.2.2.2.2.2.1, R.ix.2.2.2.2.2.2.2.2.2.2.2.2.2.2.2.2.2.2.2.2.2.2.2.2.2.2.2.2.2.2.2.2.2.2.2.2.1, R.ix.2.2.2.2.2.2.2.2.2.2.2.2.2.2.2.2.2.2.2.2.2.2.2.2.2.2.2.2.2.2.2.2.2.2.2.2.2.1, R.ix.2.2.2.2.2.2.2.2.2.2.2.2.2.2.2.2.2.2.2.2.2.2.2.2.2.2.2.2.2.2.2.2.2.2.2.2.2.2⟩) R.la R.sca R.val (⟨R.ref.1, R.ref.2.1, ?_⟩) R.wat R.flg R.tru R.hld R.lea (?_) R.bdr (⟨R.inv.1, R.inv.2.1, R.inv.2.2.1, R.inv.2.2.2.1, R.inv.2.2.2.2.1, ?_, R.inv.2.2.2.2.2.2.1, R.inv.2.2.2.2.2.2.2.1, R.inv.2.2.2.2.2.2.2.2.1, R.inv.2.2.2.2.2.2.2.2.2.1, R.inv.2.2.2.2.2.2.2.2.2.2.1, R.inv.2.2.2.2.2.2.2.2.2.2.2⟩)
  · intro i hi
    have hi : i < mN M 63 := hi
    have e : mE (M.1, fun k j => if ltK l k j then N.2.1 k j else M.2.1 k j, M.2.2) 65 i = mE M 65 i := congrArg Int32.toNatClampNeg (if_neg (nk 65 i (by decide) (by decide) hi))
    rw [e]
    exact R.ref.2.2 i hi
  · intro i hi
    have hi : i < mN M 63 := hi
    have hi2 : i < 200 := Nat.lt_of_lt_of_le hi R.nL
    obtain ⟨q1, q2⟩ := R.row i hi
    have e1 : mE (M.1, fun k j => if ltK l k j then N.2.1 k j else M.2.1 k j, M.2.2) 69 i = mE M 69 i := congrArg Int32.toNatClampNeg (if_neg (nk 69 i (by decide) (by decide) hi))
    have e2 : mE (M.1, fun k j => if ltK l k j then N.2.1 k j else M.2.1 k j, M.2.2) 67 i = mE M 67 i := congrArg Int32.toNatClampNeg (if_neg (nk 67 i (by decide) (by decide) hi))
    have b1 := (R.mI.A (k := 69) (n := 200) (b := 9) (by decide) hi2).2
    have b2 := (R.mI.A (k := 67) (n := 200) (b := 41) (by decide) hi2).2
    rw [e1, e2]
    refine ⟨fun j hj => (q1 j hj).trans (if_neg (fun z => ?_)).symm, fun j hj => (q2 j hj).trans (if_neg (fun z => ?_)).symm⟩
    · have z2 : 8 * l ≤ 8 * i + j := z.2
      omega
    · have z2 : 40 * l ≤ 40 * i + j := z.2
      omega
  · intro i hi
    have hi : i < mN M 63 := hi
    obtain ⟨q1, q2, q3⟩ := R.inv.2.2.2.2.2.1 i hi
    have e : mE (M.1, fun k j => if ltK l k j then N.2.1 k j else M.2.1 k j, M.2.2) 65 i = mE M 65 i := congrArg Int32.toNatClampNeg (if_neg (nk 65 i (by decide) (by decide) hi))
    have e1 : mA (M.1, fun k j => if ltK l k j then N.2.1 k j else M.2.1 k j, M.2.2) 73 i = mA M 73 i := if_neg (nk 73 i (by decide) (by decide) hi)
    have e2 : mA (M.1, fun k j => if ltK l k j then N.2.1 k j else M.2.1 k j, M.2.2) 74 i = mA M 74 i := if_neg (nk 74 i (by decide) (by decide) hi)
    rw [e, e1, e2]
    exact ⟨q1, q2, q3⟩

