theorem cR.grp {τ : Nat → Nat → Nat} {S : awS} {M : aM} (R : cR τ S M) {g t : Nat} {v : Int32} (ht : t ≤ mN M 1 + 1) : cR τ (wI (wI S 3 g 2 v) 3 g 3 (nI t)) (pA (pA M 50 g (nI t)) 51 g v) := by
  have hcb := R.nC
  exact cR.mk' ((R.mI.qF (by decide)).qF (by decide)) R.tow R.lst R.cx R.cnt.2.1 R.cnt.2.2 R.src R.rul R.ala R.ltr R.brd (⟨R.ix.1, R.ix.2.1, R.ix.2.2.1, R.ix.2.2.2.1, R.ix.2.2.2.2.1, fun i hi => by
    have q := R.int (f := 3) (k := 2) (m := 51) (q := 48) (by decide) hi
    simp [sI_wI, mA_pA]
    by_cases e : i = g
    · simp [e]
    · simp [e]; exact q, fun i hi => by
    have q := R.int (f := 3) (k := 3) (m := 50) (q := 48) (by decide) hi
    simp [sI_wI, mA_pA]
    by_cases e : i = g
    · simp [e]
    · simp [e]; exact q, R.ix.2.2.2.2.2.2.2.1, R.ix.2.2.2.2.2.2.2.2.1, R.ix.2.2.2.2.2.2.2.2.2.1, R.ix.2.2.2.2.2.2.2.2.2.2.1, R.ix.2.2.2.2.2.2.2.2.2.2.2.1, R.ix.2.2.2.2.2.2.2.2.2.2.2.2.1, R.ix.2.2.2.2.2.2.2.2.2.2.2.2.2.1, R.ix.2.2.2.2.2.2.2.2.2.2.2.2.2.2.1, R.ix.2.2.2.2.2.2.2.2.2.2.2.2.2.2.2.1, R.ix.2.2.2.2.2.2.2.2.2.2.2.2.2.2.2.2.1, R.ix.2.2.2.2.2.2.2.2.2.2.2.2.2.2.2.2.2.1, R.ix.2.2.2.2.2.2.2.2.2.2.2.2.2.2.2.2.2.2.1, R.ix.2.2.2.2.2.2.2.2.2.2.2.2.2.2.2.2.2.2.2.1, R.ix.2.2.2.2.2.2.2.2.2.2.2.2.2.2.2.2.2.2.2.2.1, R.ix.2.2.2.2.2.2.2.2.2.2.2.2.2.2.2.2.2.2.2.2.2.1, R.ix.2.2.2.2.2.2.2.2.2.2.2.2.2.2.2.2.2.2.2.2.2.2.1, R.ix.2.2.2.2.2.2.2.2.2.2.2.2.2.2.2.2.2.2.2.2.2.2.2.1, R.ix.2.2.2.2.2.2.2.2.2.2.2.2.2.2.2.2.2.2.2.2.2.2.2.2.1, R.ix.2.2.2.2.2.2.2.2.2.2.2.2.2.2.2.2.2.2.2.2.2.2.2.2.2.1, R.ix.2.2.2.2.2.2.2.2.2.2.2.2.2.2.2.2.2.2.2.2.2.2.2.2.2.2.1, R.ix.2.2.2.2.2.2.2.2.2.2.2.2.2.2.2.2.2.2.2.2.2.2.2.2.2.2.2.1, R.ix.2.2.2.2.2.2.2.2.2.2.2.2.2.2.2.2.2.2.2.2.2.2.2.2.2.2.2.2.1, R.ix.2.2.2.2.2.2.2.2.2.2.2.2.2.2.2.2.2.2.2.2.2.2.2.2.2.2.2.2.2.1, R.ix.2.2.2.2.2.2.2.2.2.2.2.2.2.2.2.2.2.2.2.2.2.2.2.2.2.2.2.2.2.2.1, R.ix.2.2.2.2.2.2.2.2.2.2.2.2.2.2.2.2.2.2.2.2.2.2.2.2.2.2.2.2.2.2.2.1, R.ix.2.2.2.2.2.2.2.2.2.2.2.2.2.2.2.2.2.2.2.2.2.2.2.2.2.2.2.2.2.2.2.2.1, R.ix.2.2.2.2.2.2.2.2.2.2.2.2.2.2.2.2.2.2.2.2.2.2.2.2.2.2.2.2.2.2.2.2.2.1, R.ix.2.2.2.2.2.2.2.2.2.2.2.2.2.2.2.2.2.2.2.2.2.2.2.2.2.2.2.2.2.2.2.2.2.2.1, R.ix.2.2.2.2.2.2.2.2.2.2.2.2.2.2.2.2.2.2.2.2.2.2.2.2.2.2.2.2.2.2.2.2.2.2.2.1, R.ix.2.2.2.2.2.2.2.2.2.2.2.2.2.2.2.2.2.2.2.2.2.2.2.2.2.2.2.2.2.2.2.2.2.2.2.2.1, R.ix.2.2.2.2.2.2.2.2.2.2.2.2.2.2.2.2.2.2.2.2.2.2.2.2.2.2.2.2.2.2.2.2.2.2.2.2.2.1, R.ix.2.2.2.2.2.2.2.2.2.2.2.2.2.2.2.2.2.2.2.2.2.2.2.2.2.2.2.2.2.2.2.2.2.2.2.2.2.2⟩) R.la R.sca R.val R.ref R.wat R.flg R.tru R.hld R.lea R.row R.bdr (⟨R.inv.1, R.inv.2.1, R.inv.2.2.1, R.inv.2.2.2.1, fun i hi => ⟨(R.inv.2.2.2.2.1 i hi).1, by
    have q := (R.inv.2.2.2.2.1 i hi).2
    show mA (pA (pA M 50 g (nI t)) 51 g v) 50 i ≤ nI (mN M 1 + 1)
    rw [mA_pA, if_neg (fun z => absurd z.1 (by decide)), mA_pA]
    by_cases e : i = g
    · rw [if_pos ⟨rfl, e⟩]; exact nI_le ht (by omega)
    · rw [if_neg (fun z => e z.2)]; exact q⟩, R.inv.2.2.2.2.2.1, R.inv.2.2.2.2.2.2.1, R.inv.2.2.2.2.2.2.2.1, R.inv.2.2.2.2.2.2.2.2.1, R.inv.2.2.2.2.2.2.2.2.2.1, R.inv.2.2.2.2.2.2.2.2.2.2.1, R.inv.2.2.2.2.2.2.2.2.2.2.2⟩)
theorem ltM.pS {l : Nat} {M N : aM} (h : ltM l M N) (v : Int32) : ltM l (pS M 63 v) (pS N 63 v) := by
  obtain ⟨h1, h2, h3⟩ := h
  refine ⟨?_, h2, h3⟩
  show (fun k => if k = 63 then v else N.1 k) = (fun k => if k = 63 then v else M.1 k)
  rw [h1]
theorem sendC_o (B : aM) (l k j : Nat) (hk : ¬ k = 70) : ∀ n, mA (mIter (fun i M => pA M 70 (8 * l + i) (mA M 77 i)) n B) k j = mA B k j
  | 0 => rfl
  | n + 1 => by
    show mA (pA _ 70 (8 * l + n) _) k j = _
    rw [mA_pA, if_neg (fun z => hk z.1)]
    exact sendC_o B l k j hk n
theorem sendC_v (B : aM) (l : Nat) : ∀ n j, j < n → mA (mIter (fun i M => pA M 70 (8 * l + i) (mA M 77 i)) n B) 70 (8 * l + j) = mA B 77 j
  | 0, j, h => absurd h (Nat.not_lt_zero j)
  | n + 1, j, h => by
    show mA (pA _ 70 (8 * l + n) (mA (mIter (fun i M => pA M 70 (8 * l + i) (mA M 77 i)) n B) 77 n)) 70 (8 * l + j) = _
    rw [mA_pA]
    by_cases e : j = n
    · subst e
      rw [if_pos ⟨rfl, rfl⟩]
      exact sendC_o B l 77 j (by decide) j
    · rw [if_neg (fun z => e (by omega))]
      exact sendC_v B l n j (by omega)
theorem sendC_lt (B : aM) (l : Nat) : ∀ n, ltM l B (mIter (fun i M => pA M 70 (8 * l + i) (mA M 77 i)) n B)
  | 0 => ltM.rf
  | n + 1 => (sendC_lt B l n).tr (ltM.w ⟨⟨by decide, by decide⟩, by show 8 * l ≤ 8 * l + n; omega⟩)
theorem write_o {M : aM} {l x k j : Nat} (hk : ¬ k = 68 ∧ ¬ k = 67 ∧ ((¬ k = 38 ∧ ¬ k = 39 ∧ ¬ k = 40 ∧ ¬ k = 41) ∨ ¬ j = x)) : mA (mWrite M l x) k j = mA M k j := by
  have a1 : ∀ (N : aM) (q i : Nat) (v : Int32), (q = 68 ∨ q = 67 ∨ ((q = 38 ∨ q = 39 ∨ q = 40 ∨ q = 41) ∧ i = x)) → mA (pA N q i v) k j = mA N k j := fun N q i v h => by
    rw [mA_pA, if_neg (fun z => ?_)]
    obtain ⟨z1, z2⟩ := z
    omega
  unfold mWrite
  split
  · rfl
  · simp only []
    split
    · rw [a1 _ _ _ _ (by omega), a1 _ _ _ _ (by omega), a1 _ _ _ _ (by omega), a1 _ _ _ _ (by omega), a1 _ _ _ _ (by omega)]
    · rw [a1 _ _ _ _ (by omega), a1 _ _ _ _ (by omega), a1 _ _ _ _ (by omega), a1 _ _ _ _ (by omega), a1 _ _ _ _ (by omega)]
theorem write_L (M : aM) (l x k j : Nat) : mL (mWrite M l x) k j = mL M k j := by
  unfold mWrite
  split
  · rfl
  · simp only []
    split <;> rfl

theorem mSend1_o (g l : Nat) (M : aM) (k j : Nat) (hk : ¬ k = 68 ∧ ¬ k = 67 ∧ ((¬ k = 38 ∧ ¬ k = 39 ∧ ¬ k = 40 ∧ ¬ k = 41) ∨ ¬ mA M 42 j = nI g)) : ∀ n, mA (mIter (mSend1 g l) n M) k j = mA M k j ∧ (¬ mA M 42 j = nI g → ¬ mA (mIter (mSend1 g l) n M) 42 j = nI g)
  | 0 => ⟨rfl, id⟩
  | n + 1 => by
    obtain ⟨i1, i2⟩ := mSend1_o g l M k j hk n
    show mA (mSend1 g l n (mIter (mSend1 g l) n M)) k j = _ ∧ (_ → ¬ mA (mSend1 g l n (mIter (mSend1 g l) n M)) 42 j = nI g)
    generalize mIter (mSend1 g l) n M = K at i1 i2 ⊢
    unfold mSend1
    split
    · rename_i c
      refine ⟨(write_o ⟨hk.1, hk.2.1, hk.2.2.elim Or.inl (fun z => Or.inr (fun e => i2 z (by rw [e]; exact c.1)))⟩).trans i1, fun z => ?_⟩
      rw [write_o ⟨by decide, by decide, Or.inl (by decide)⟩]
      exact i2 z
    · exact ⟨i1, i2⟩

theorem mSend2_o (g l : Nat) (M : aM) (k j : Nat) (hk : ¬ k = 68 ∧ ¬ k = 67 ∧ ((¬ k = 38 ∧ ¬ k = 39 ∧ ¬ k = 40 ∧ ¬ k = 41) ∨ ¬ mA M 42 j = nI g)) : ∀ n, mA (mIter (mSend2 g l) n M) k j = mA M k j ∧ (¬ mA M 42 j = nI g → ¬ mA (mIter (mSend2 g l) n M) 42 j = nI g)
  | 0 => ⟨rfl, id⟩
  | n + 1 => by
    obtain ⟨i1, i2⟩ := mSend2_o g l M k j hk n
    show mA (mSend2 g l n (mIter (mSend2 g l) n M)) k j = _ ∧ (_ → ¬ mA (mSend2 g l n (mIter (mSend2 g l) n M)) 42 j = nI g)
    generalize mIter (mSend2 g l) n M = K at i1 i2 ⊢
    unfold mSend2
    split
    · rename_i c
      refine ⟨(write_o ⟨hk.1, hk.2.1, hk.2.2.elim Or.inl (fun z => Or.inr (fun e => i2 z (by rw [e]; exact c.1)))⟩).trans i1, fun z => ?_⟩
      rw [write_o ⟨by decide, by decide, Or.inl (by decide)⟩]
      exact i2 z
    · exact ⟨i1, i2⟩

set_option maxHeartbeats 1000000 in
theorem cR.addL {τ : Nat → Nat → Nat} {S : awS} {N : aM} {l : Nat} (R : cR τ (vS S l) (pS N 63 (nI l))) (hl : l < 200) (hI : mIx 0 (pS N 63 (nI (l + 1)))) (hO : letOk S l) (hc : sC S 4 = l + 1 ∧ sC S 23 = l + 1 ∧ sC S 24 = l + 1)
    (x1 : sI S 4 l 1 = mA N 66 l) (x2 : sI S 4 l 2 = mA N 64 l) (x4 : sI S 4 l 4 = mA N 69 l) (x5 : sI S 4 l 5 = mA N 72 l) (x6 : sI S 4 l 6 = mA N 67 l) (x7 : sI S 4 l 7 = mA N 73 l) (x8 : sI S 4 l 8 = mA N 74 l) (x9 : sI S 4 l 9 = mA N 71 l)
    (xr : sR S 4 l 0 = some (nm 3 (mE N 65 l))) (y1 : ∀ j, j < mE N 69 l → sI S 23 l j = mA N 70 (8 * l + j)) (y2 : ∀ j, j < mE N 67 l → sI S 24 l j = mA N 68 (40 * l + j)) (z1 : mE N 65 l < mN N 48) (z2 : mA N 73 l < 0 ↔ mA N 74 l = 0) (z3 : 0 ≤ mA N 74 l) : cR τ (wK S 5 (l + 1, elU (nm 4) l (nm 4 l))) (pS N 63 (nI (l + 1))) := by
  have hN : mN (pS N 63 (nI (l + 1))) 63 = l + 1 := nI_cl (by omega)
  have h0 : mN (pS N 63 (nI l)) 63 = l := nI_cl (by omega)
  have cs : ∀ i, i < mN (pS N 63 (nI (l + 1))) 63 → i = l ∨ i < mN (pS N 63 (nI l)) 63 := fun i hi => by
    rw [hN] at hi
    rw [h0]
    omega
  refine cR.mk' (hI) (R.tow.cg (fun _ => rfl) (fun _ => rfl) rfl rfl rfl (fun q hq => (show sC S (32 + q) = sC (vS S l) (32 + q) from (if_neg (by omega)).symm))) (⟨R.lst.1, R.lst.2.1, R.lst.2.2.1, R.lst.2.2.2.1, R.lst.2.2.2.2.1, ?_, R.lst.2.2.2.2.2.2⟩) (⟨R.cx.1, R.cx.2.1, R.cx.2.2.1, R.cx.2.2.2.1, R.cx.2.2.2.2.1, R.cx.2.2.2.2.2.1, R.cx.2.2.2.2.2.2.1, R.cx.2.2.2.2.2.2.2.1, R.cx.2.2.2.2.2.2.2.2.1, R.cx.2.2.2.2.2.2.2.2.2.1, R.cx.2.2.2.2.2.2.2.2.2.2.1, R.cx.2.2.2.2.2.2.2.2.2.2.2.1, R.cx.2.2.2.2.2.2.2.2.2.2.2.2.1, ?_, ?_, ?_⟩) R.cnt.2.1 R.cnt.2.2 R.src R.rul R.ala (?_) R.brd (⟨R.ix.1, R.ix.2.1, R.ix.2.2.1, R.ix.2.2.2.1, R.ix.2.2.2.2.1, R.ix.2.2.2.2.2.1, R.ix.2.2.2.2.2.2.1, fun i hi => (cs i hi).elim (fun e => by rw [e]; exact x1) (fun e => R.int (f := 4) (k := 1) (m := 66) (q := 63) (by decide) e), fun i hi => (cs i hi).elim (fun e => by rw [e]; exact x2) (fun e => R.int (f := 4) (k := 2) (m := 64) (q := 63) (by decide) e), fun i hi => (cs i hi).elim (fun e => by rw [e]; exact x4) (fun e => R.int (f := 4) (k := 4) (m := 69) (q := 63) (by decide) e), fun i hi => (cs i hi).elim (fun e => by rw [e]; exact x5) (fun e => R.int (f := 4) (k := 5) (m := 72) (q := 63) (by decide) e), fun i hi => (cs i hi).elim (fun e => by rw [e]; exact x6) (fun e => R.int (f := 4) (k := 6) (m := 67) (q := 63) (by decide) e), fun i hi => (cs i hi).elim (fun e => by rw [e]; exact x7) (fun e => R.int (f := 4) (k := 7) (m := 73) (q := 63) (by decide) e), fun i hi => (cs i hi).elim (fun e => by rw [e]; exact x8) (fun e => R.int (f := 4) (k := 8) (m := 74) (q := 63) (by decide) e), fun i hi => (cs i hi).elim (fun e => by rw [e]; exact x9) (fun e => R.int (f := 4) (k := 9) (m := 71) (q := 63) (by decide) e), R.ix.2.2.2.2.2.2.2.2.2.2.2.2.2.2.2.1, R.ix.2.2.2.2.2.2.2.2.2.2.2.2.2.2.2.2.1, R.ix.2.2.2.2.2.2.2.2.2.2.2.2.2.2.2.2.2.1, R.ix.2.2.2.2.2.2.2.2.2.2.2.2.2.2.2.2.2.2.1, R.ix.2.2.2.2.2.2.2.2.2.2.2.2.2.2.2.2.2.2.2.1, R.ix.2.2.2.2.2.2.2.2.2.2.2.2.2.2.2.2.2.2.2.2.1, R.ix.2.2.2.2.2.2.2.2.2.2.2.2.2.2.2.2.2.2.2.2.2.1, R.ix.2.2.2.2.2.2.2.2.2.2.2.2.2.2.2.2.2.2.2.2.2.2.1, R.ix.2.2.2.2.2.2.2.2.2.2.2.2.2.2.2.2.2.2.2.2.2.2.2.1, R.ix.2.2.2.2.2.2.2.2.2.2.2.2.2.2.2.2.2.2.2.2.2.2.2.2.1, R.ix.2.2.2.2.2.2.2.2.2.2.2.2.2.2.2.2.2.2.2.2.2.2.2.2.2.1, R.ix.2.2.2.2.2.2.2.2.2.2.2.2.2.2.2.2.2.2.2.2.2.2.2.2.2.2.1, R.ix.2.2.2.2.2.2.2.2.2.2.2.2.2.2.2.2.2.2.2.2.2.2.2.2.2.2.2.1, R.ix.2.2.2.2.2.2.2.2.2.2.2.2.2.2.2.2.2.2.2.2.2.2.2.2.2.2.2.2.1, R.ix.2.2.2.2.2.2.2.2.2.2.2.2.2.2.2.2.2.2.2.2.2.2.2.2.2.2.2.2.2.1, R.ix.2.2.2.2.2.2.2.2.2.2.2.2.2.2.2.2.2.2.2.2.2.2.2.2.2.2.2.2.2.2.1, R.ix.2.2.2.2.2.2.2.2.2.2.2.2.2.2.2.2.2.2.2.2.2.2.2.2.2.2.2.2.2.2.2.1, R.ix.2.2.2.2.2.2.2.2.2.2.2.2.2.2.2.2.2.2.2.2.2.2.2.2.2.2.2.2.2.2.2.2.1, R.ix.2.2.2.2.2.2.2.2.2.2.2.2.2.2.2.2.2.2.2.2.2.2.2.2.2.2.2.2.2.2.2.2.2.1, R.ix.2.2.2.2.2.2.2.2.2.2.2.2.2.2.2.2.2.2.2.2.2.2.2.2.2.2.2.2.2.2.2.2.2.2.1, R.ix.2.2.2.2.2.2.2.2.2.2.2.2.2.2.2.2.2.2.2.2.2.2.2.2.2.2.2.2.2.2.2.2.2.2.2.1, R.ix.2.2.2.2.2.2.2.2.2.2.2.2.2.2.2.2.2.2.2.2.2.2.2.2.2.2.2.2.2.2.2.2.2.2.2.2.1, R.ix.2.2.2.2.2.2.2.2.2.2.2.2.2.2.2.2.2.2.2.2.2.2.2.2.2.2.2.2.2.2.2.2.2.2.2.2.2.1, R.ix.2.2.2.2.2.2.2.2.2.2.2.2.2.2.2.2.2.2.2.2.2.2.2.2.2.2.2.2.2.2.2.2.2.2.2.2.2.2⟩) R.la R.sca R.val (⟨R.ref.1, R.ref.2.1, ?_⟩) R.wat R.flg R.tru R.hld R.lea (?_) R.bdr (⟨R.inv.1, R.inv.2.1, R.inv.2.2.1, R.inv.2.2.2.1, R.inv.2.2.2.2.1, ?_, R.inv.2.2.2.2.2.2.1, R.inv.2.2.2.2.2.2.2.1, R.inv.2.2.2.2.2.2.2.2.1, R.inv.2.2.2.2.2.2.2.2.2.1, R.inv.2.2.2.2.2.2.2.2.2.2.1, R.inv.2.2.2.2.2.2.2.2.2.2.2⟩)
  · show ((l + 1, elU (nm 4) l (nm 4 l)) : Nat × (Nat → Nat)) = _
    rw [hN, elU_nm]
  · rw [hN]; show sC S 4 = _; omega
  · rw [hN]; show sC S 23 = _; omega
  · rw [hN]; show sC S 24 = _; omega
  · intro i hi
    exact (cs i hi).elim (fun e => by rw [e]; exact hO) (fun e => R.ltr i e)
  · intro i hi
    exact (cs i hi).elim (fun e => by rw [e]; exact xr) (fun e => R.ref.2.2 i e)
  · intro i hi
    exact (cs i hi).elim (fun e => by rw [e]; exact ⟨y1, y2⟩) (fun e => R.row i e)
  · intro i hi
    exact (cs i hi).elim (fun e => by rw [e]; exact ⟨z1, z2, z3⟩) (fun e => R.inv.2.2.2.2.2.1 i e)

