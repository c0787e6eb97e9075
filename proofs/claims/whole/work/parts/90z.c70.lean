theorem pS_id {M : aM} {k : Nat} {v : Int32} (h : mS M k = v) : pS M k v = M := by
  obtain ⟨a, b⟩ := M
  refine Prod.ext ?_ rfl
  funext k'
  show (if k' = k then v else a k') = a k'
  by_cases e : k' = k
  · rw [if_pos e, e]; exact h.symm
  · rw [if_neg e]
set_option maxHeartbeats 2000000 in
theorem send_rel {τ : Nat → Nat → Nat} {S S2 : awS} {M N2 : aM} {l g t : Nat} {why : Int32} {A : awS × Nat} {NW : aM} (R : cR τ S M) (hg : g < mN M 48) (hl : mN M 63 = l) (hl2 : l < 200) (ht : t ≤ mN M 1 + 1) (eB : mSendB (mSendA M g t why) g l = N2) (z2 : sdI τ l g why (nI t) S S2 N2) (fe : A.2 = mN NW 78 ∧ ∀ j, j < A.2 → sI A.1 23 l j = mA NW 77 j) (fr : cFr 23 l S2 A.1) (hW : mWake N2 t = NW) (hIW : mI NW) (w1 : mS NW 78 = nI (mN NW 78)) (w2 : mN NW 78 ≤ 8) (w3 : ∀ k, ¬ k = 78 → mS NW k = mS N2 k) (w4 : ∀ k j, ¬ k = 76 → ¬ k = 77 → mA NW k j = mA N2 k j) (w5 : ∀ k j, mL NW k j = mL N2 k j) : cR τ (wI (wI (wK (wI A.1 4 l 4 (nI A.2)) 5 (l + 1, elU (nm 4) l (nm 4 l))) 3 g 2 (if why = 4 then 0 else 1)) 3 g 3 (nI t)) (mSend M g t why) ∧ cRest (mSend M g t why) ∧ (∀ i j, 4 ≤ j → sI (wI (wI (wK (wI A.1 4 l 4 (nI A.2)) 5 (l + 1, elU (nm 4) l (nm 4 l))) 3 g 2 (if why = 4 then 0 else 1)) 3 g 3 (nI t)) 3 i j = sI S 3 i j) ∧ cFm S (wI (wI (wK (wI A.1 4 l 4 (nI A.2)) 5 (l + 1, elU (nm 4) l (nm 4 l))) 3 g 2 (if why = 4 then 0 else 1)) 3 g 3 (nI t)) := by
  obtain ⟨R2, hI2, hr2, ⟨m, hm, hF, h67, hj⟩, hgs, hf⟩ := z2
  have hg3 : g < 300 := Nat.lt_of_lt_of_le hg R.nG
  have eSend : mSend M g t why = (pA (pA (pA (pA (pA (pA (mSendC NW l) 71 l 0) 72 l (nI t)) 73 l (-2)) 74 l 0) 50 g (nI t)) 51 g (if why = 4 then 0 else 1)) := by
    unfold mSend
    simp only []
    rw [hl, eB, hW]
    rfl
  have hIF := (R.mI.send t why hg3 (by omega)).1
  rw [eSend] at hIF ⊢
  have hA8 : A.2 ≤ 8 := by rw [fe.1]; exact w2
  have e78 : mS NW 78 = nI A.2 := by rw [fe.1]; exact w1
  -- the reference's numbers
  have sA : ∀ k, ¬ k = 63 → mS (mSendA M g t why) k = mS M k := fun k hk => by
    show (if k = 63 then _ else M.1 k) = _
    rw [if_neg hk]; rfl
  have hIA : mI (mSendA M g t why) := R.mI.sendA t why hg3 (by omega)
  have sB : ∀ k, mS N2 k = mS (mSendA M g t why) k := fun k => by rw [← eB]; exact (mSendB_inv hIA g l hl2).2 k
  have hCi := mI.sendC hIW (e78.trans (by rw [fe.1])) (by rw [← fe.1]; exact hA8) l
  have sF : ∀ k, ¬ k = 78 → mS (pA (pA (pA (pA (pA (pA (mSendC NW l) 71 l 0) 72 l (nI t)) 73 l (-2)) 74 l 0) 50 g (nI t)) 51 g (if why = 4 then 0 else 1)) k = mS N2 k := fun k hk => (hCi.2 k).trans (w3 k hk)
  have s63 : mS (pA (pA (pA (pA (pA (pA (mSendC NW l) 71 l 0) 72 l (nI t)) 73 l (-2)) 74 l 0) 50 g (nI t)) 51 g (if why = 4 then 0 else 1)) 63 = nI (l + 1) := (sF _ (by decide)).trans ((sB _).trans (by
    show (if 63 = 63 then nI (mN M 63 + 1) else M.1 63) = _
    rw [if_pos rfl, hl]))
  have nF : ∀ k, ¬ k = 78 → ¬ k = 63 → mN (pA (pA (pA (pA (pA (pA (mSendC NW l) 71 l 0) 72 l (nI t)) 73 l (-2)) 74 l 0) 50 g (nI t)) 51 g (if why = 4 then 0 else 1)) k = mN M k := fun k h1 h2 => congrArg Int32.toNatClampNeg ((sF k h1).trans ((sB k).trans (sA k h2)))
  -- the rows
  have cO : ∀ k j, ¬ k = 70 → ¬ k = 69 → mA (mSendC NW l) k j = mA NW k j := fun k j h1 h2 => (sendC_o _ l k j h1 _).trans (if_neg (fun z => h2 z.1))
  have mo : ∀ k j, ¬ k = 50 → ¬ k = 51 → ¬ k = 69 → ¬ k = 70 → ¬ k = 71 → ¬ k = 72 → ¬ k = 73 → ¬ k = 74 → ¬ k = 76 → ¬ k = 77 → mA (pA (pA (pA (pA (pA (pA (mSendC NW l) 71 l 0) 72 l (nI t)) 73 l (-2)) 74 l 0) 50 g (nI t)) 51 g (if why = 4 then 0 else 1)) k j = mA N2 k j := fun k j h1 h2 h3 h4 h5 h6 h7 h8 h9 h10 => by
    rw [mA_pA, if_neg (fun z => h2 z.1), mA_pA, if_neg (fun z => h1 z.1), mA_pA, if_neg (fun z => h8 z.1), mA_pA, if_neg (fun z => h7 z.1), mA_pA, if_neg (fun z => h6 z.1), mA_pA, if_neg (fun z => h5 z.1), cO k j h4 h3]
    exact w4 k j h9 h10
  have bo : ∀ k j, (¬ k = 68 ∧ ¬ k = 67 ∧ ¬ k = 38 ∧ ¬ k = 39 ∧ ¬ k = 40 ∧ ¬ k = 41) → mA N2 k j = mA (mSendA M g t why) k j := fun k j h => by
    rw [← eB]
    exact ((mSend2_o g l _ k j ⟨h.1, h.2.1, Or.inl h.2.2⟩ _).1).trans (mSend1_o g l _ k j ⟨h.1, h.2.1, Or.inl h.2.2⟩ _).1
  have a64 : mA (pA (pA (pA (pA (pA (pA (mSendC NW l) 71 l 0) 72 l (nI t)) 73 l (-2)) 74 l 0) 50 g (nI t)) 51 g (if why = 4 then 0 else 1)) 64 l = nI t := by
    rw [mo _ _ (by decide) (by decide) (by decide) (by decide) (by decide) (by decide) (by decide) (by decide) (by decide) (by decide), bo _ _ (by decide)]
    simp [mSendA, hl, mA_pA]
  have a65 : mA (pA (pA (pA (pA (pA (pA (mSendC NW l) 71 l 0) 72 l (nI t)) 73 l (-2)) 74 l 0) 50 g (nI t)) 51 g (if why = 4 then 0 else 1)) 65 l = nI g := by
    rw [mo _ _ (by decide) (by decide) (by decide) (by decide) (by decide) (by decide) (by decide) (by decide) (by decide) (by decide), bo _ _ (by decide)]
    simp [mSendA, hl, mA_pA]
  have a66 : mA (pA (pA (pA (pA (pA (pA (mSendC NW l) 71 l 0) 72 l (nI t)) 73 l (-2)) 74 l 0) 50 g (nI t)) 51 g (if why = 4 then 0 else 1)) 66 l = why := by
    rw [mo _ _ (by decide) (by decide) (by decide) (by decide) (by decide) (by decide) (by decide) (by decide) (by decide) (by decide), bo _ _ (by decide)]
    simp [mSendA, hl, mA_pA]
  have a67 : mA (pA (pA (pA (pA (pA (pA (mSendC NW l) 71 l 0) 72 l (nI t)) 73 l (-2)) 74 l 0) 50 g (nI t)) 51 g (if why = 4 then 0 else 1)) 67 l = nI m := by
    rw [mo _ _ (by decide) (by decide) (by decide) (by decide) (by decide) (by decide) (by decide) (by decide) (by decide) (by decide)]
    exact h67
  have a69 : mA (pA (pA (pA (pA (pA (pA (mSendC NW l) 71 l 0) 72 l (nI t)) 73 l (-2)) 74 l 0) 50 g (nI t)) 51 g (if why = 4 then 0 else 1)) 69 l = nI A.2 := by
    have q : mA (mSendC NW l) 69 l = mS NW 78 := (sendC_o _ l 69 l (by decide) _).trans (if_pos ⟨rfl, rfl⟩)
    exact q.trans e78
  have a71 : mA (pA (pA (pA (pA (pA (pA (mSendC NW l) 71 l 0) 72 l (nI t)) 73 l (-2)) 74 l 0) 50 g (nI t)) 51 g (if why = 4 then 0 else 1)) 71 l = 0 := by simp [mA_pA]
  have a72 : mA (pA (pA (pA (pA (pA (pA (mSendC NW l) 71 l 0) 72 l (nI t)) 73 l (-2)) 74 l 0) 50 g (nI t)) 51 g (if why = 4 then 0 else 1)) 72 l = nI t := by simp [mA_pA]
  have a73 : mA (pA (pA (pA (pA (pA (pA (mSendC NW l) 71 l 0) 72 l (nI t)) 73 l (-2)) 74 l 0) 50 g (nI t)) 51 g (if why = 4 then 0 else 1)) 73 l = -2 := by simp [mA_pA]
  have a74 : mA (pA (pA (pA (pA (pA (pA (mSendC NW l) 71 l 0) 72 l (nI t)) 73 l (-2)) 74 l 0) 50 g (nI t)) 51 g (if why = 4 then 0 else 1)) 74 l = 0 := by simp [mA_pA]
  -- the program's letter
  have hT : A.1.2 = S2.2 := fr.1
  have hR : ∀ f i j, sR A.1 f i j = sR S2 f i j := fun f i j => by unfold sR; rw [hT]
  have hNn : ∀ f i, sN A.1 f i = sN S2 f i := fun f i => by unfold sN; rw [hT]
  have hCc : ∀ f, sC A.1 f = sC S2 f := fun f => by unfold sC; rw [hT]
  have hKk : ∀ q, sK A.1 q = sK S2 q := fun q => by unfold sK; rw [hT]
  have h6 : ∀ j, ¬ j = 4 → sI (wI (wI (wI A.1 4 l 4 (nI A.2)) 3 g 2 (if why = 4 then 0 else 1)) 3 g 3 (nI t)) 4 l j = sI S2 4 l j := fun j hj4 => by
    have q : sI (wI (wI (wI A.1 4 l 4 (nI A.2)) 3 g 2 (if why = 4 then 0 else 1)) 3 g 3 (nI t)) 4 l j = sI A.1 4 l j := by simp [sI_wI, hj4]
    rw [q]
    exact fr.2 4 l j (by decide) (by decide) (fun z => absurd z.1 (by decide))
  obtain ⟨f1, f2, f3, f4, f5, f6, f7, f8, f9, f10⟩ := hF
  -- the relation
  have h0 : ∀ K : aM, mN (pS K 63 (nI l)) 63 = l := fun K => nI_cl (by omega)
  have Ra : cR τ (vS S2 l) (pS NW 63 (nI l)) := R2.mc (hIW.qSR (b := 200) (by decide) (by omega) (by decide)) (fun k h1 h2 => by
    rw [mS_pS, mS_pS]
    by_cases e : k = 63
    · rw [if_pos e, if_pos e]
    · rw [if_neg e, if_neg e]; exact w3 k h2) (fun k j h1 h2 _ => w4 k j h1 h2) (fun k j _ => w5 k j)
  have Rx : cR τ (vS (fun f i j => if f = 27 ∨ f = 28 then A.1.1 f i j else S2.1 f i j, S2.2) l) (pS NW 63 (nI l)) := Ra.sc rfl (fun f i k h1 h2 h3 => if_neg (fun z => z.elim h2 h3))
  have Rb : cR τ (vS (wI A.1 4 l 4 (nI A.2)) l) (pS NW 63 (nI l)) := by
    refine Rx.lt (h0 _) (vS_0.tr (ltE.tr (S1 := A.1) ⟨fun f i j q => ⟨?_, ?_, hR f i j⟩, fun f i q => hNn f i, fun f q => hCc f, fun q => hKk q⟩ (ltE.wI ⟨Or.inl rfl, Nat.le_refl _⟩)))
    · show sI A.1 f i j = if f = 27 ∨ f = 28 then A.1.1 f i j else S2.1 f i j
      by_cases e : f = 27 ∨ f = 28
      · rw [if_pos e]; rfl
      · rw [if_neg e]
        exact fr.2 f i j (fun z => e (Or.inl z)) (fun z => e (Or.inr z)) (fun z => q ⟨Or.inr (Or.inl z.1), by rw [z.2]; exact Nat.le_refl l⟩)
    · unfold sL
      rw [hT]
  have lt1 : ltM l NW (pA (pA (pA (pA (mSendC NW l) 71 l 0) 72 l (nI t)) 73 l (-2)) 74 l 0) := ((((ltM.tr (ltM.w (M := NW) ⟨⟨by decide, by decide⟩, by show l ≤ l; exact Nat.le_refl l⟩) (sendC_lt _ l _)).tr (ltM.w ⟨⟨by decide, by decide⟩, by show l ≤ l; exact Nat.le_refl l⟩)).tr (ltM.w ⟨⟨by decide, by decide⟩, by show l ≤ l; exact Nat.le_refl l⟩)).tr (ltM.w ⟨⟨by decide, by decide⟩, by show l ≤ l; exact Nat.le_refl l⟩)).tr (ltM.w ⟨⟨by decide, by decide⟩, by show l ≤ l; exact Nat.le_refl l⟩)
  have hIE : mI (pA (pA (pA (pA (mSendC NW l) 71 l 0) 72 l (nI t)) 73 l (-2)) 74 l 0) := (((hCi.1.qR (b := 9) (x := 0) (by decide) (by decide) (by decide)).qF (by decide)).qF (by decide)).qF (by decide)
  have Rc : cR τ (vS (wI A.1 4 l 4 (nI A.2)) l) (pS (pA (pA (pA (pA (mSendC NW l) 71 l 0) 72 l (nI t)) 73 l (-2)) 74 l 0) 63 (nI l)) := Rb.lm (h0 _) (lt1.pS _) (hIE.qSR (b := 200) (by decide) (by omega) (by decide))
  have Rd : cR τ (vS (wI (wI (wI A.1 4 l 4 (nI A.2)) 3 g 2 (if why = 4 then 0 else 1)) 3 g 3 (nI t)) l) (pS (pA (pA (pA (pA (pA (pA (mSendC NW l) 71 l 0) 72 l (nI t)) 73 l (-2)) 74 l 0) 50 g (nI t)) 51 g (if why = 4 then 0 else 1)) 63 (nI l)) := Rc.grp (g := g) (t := t) (v := (if why = 4 then 0 else 1)) (by
    have q : mN (pS (pA (pA (pA (pA (mSendC NW l) 71 l 0) 72 l (nI t)) 73 l (-2)) 74 l 0) 63 (nI l)) 1 = mN M 1 := nF 1 (by decide) (by decide)
    rw [q]; exact ht)
  have Re := Rd.addL hl2 (by rw [pS_id s63]; exact hIF) ⟨(hR _ _ _).trans f1.1, (hR _ _ _).trans f1.2.1, (hNn _ _).trans f1.2.2.1, (hNn _ _).trans f1.2.2.2⟩ ⟨(hCc 4).trans f10.1, (hCc 23).trans f10.2.1, (hCc 24).trans f10.2.2⟩
    (by rw [h6 1 (by decide), a66]; exact f3) (by rw [h6 2 (by decide), a64]; exact f4) (by rw [a69]; simp [sI_wI]) (by rw [h6 5 (by decide), a72]; exact f5) (by rw [h6 6 (by decide), a67]; exact f6) (by rw [h6 7 (by decide), a73]; exact f7) (by rw [h6 8 (by decide), a74]; exact f8) (by rw [h6 9 (by decide), a71]; exact f9)
    (by rw [show mE (pA (pA (pA (pA (pA (pA (mSendC NW l) 71 l 0) 72 l (nI t)) 73 l (-2)) 74 l 0) 50 g (nI t)) 51 g (if why = 4 then 0 else 1)) 65 l = g from by unfold mE; rw [a65]; exact nI_cl (by omega)]; exact (hR _ _ _).trans f2)
    (fun j hj2 => by
      rw [show mE (pA (pA (pA (pA (pA (pA (mSendC NW l) 71 l 0) 72 l (nI t)) 73 l (-2)) 74 l 0) 50 g (nI t)) 51 g (if why = 4 then 0 else 1)) 69 l = A.2 from by unfold mE; rw [a69]; exact nI_cl (by omega)] at hj2
      have q : sI (wI (wI (wI A.1 4 l 4 (nI A.2)) 3 g 2 (if why = 4 then 0 else 1)) 3 g 3 (nI t)) 23 l j = sI A.1 23 l j := by simp [sI_wI]
      rw [q, fe.2 j hj2]
      have q2 : mA (pA (pA (pA (pA (pA (pA (mSendC NW l) 71 l 0) 72 l (nI t)) 73 l (-2)) 74 l 0) 50 g (nI t)) 51 g (if why = 4 then 0 else 1)) 70 (8 * l + j) = mA NW 77 j := sendC_v (pA NW 69 l (mS NW 78)) l (mN NW 78) j (by rw [← fe.1]; exact hj2)
      exact q2.symm)
    (fun j hj2 => by
      rw [show mE (pA (pA (pA (pA (pA (pA (mSendC NW l) 71 l 0) 72 l (nI t)) 73 l (-2)) 74 l 0) 50 g (nI t)) 51 g (if why = 4 then 0 else 1)) 67 l = m from by unfold mE; rw [a67]; exact nI_cl (by omega)] at hj2
      have q : sI (wI (wI (wI A.1 4 l 4 (nI A.2)) 3 g 2 (if why = 4 then 0 else 1)) 3 g 3 (nI t)) 24 l j = sI A.1 24 l j := by simp [sI_wI]
      rw [q, fr.2 24 l j (by decide) (by decide) (fun z => absurd z.1 (by decide)), hj j hj2]
      exact (mo _ _ (by decide) (by decide) (by decide) (by decide) (by decide) (by decide) (by decide) (by decide) (by decide) (by decide)).symm)
    (by rw [show mE (pA (pA (pA (pA (pA (pA (mSendC NW l) 71 l 0) 72 l (nI t)) 73 l (-2)) 74 l 0) 50 g (nI t)) 51 g (if why = 4 then 0 else 1)) 65 l = g from by unfold mE; rw [a65]; exact nI_cl (by omega), nF 48 (by decide) (by decide)]; exact hg)
    (by rw [a73, a74]; decide) (by rw [a74]; exact Int32.le_refl 0)
  rw [pS_id s63] at Re
  refine ⟨Re, fun i hi z => ?_, fun i j q => ?_, ?_⟩
  · have hi : i < mN N2 30 := by
      have q : mN (pA (pA (pA (pA (pA (pA (mSendC NW l) 71 l 0) 72 l (nI t)) 73 l (-2)) 74 l 0) 50 g (nI t)) 51 g (if why = 4 then 0 else 1)) 30 = mN N2 30 := congrArg Int32.toNatClampNeg (sF 30 (by decide))
      rw [← q]; exact hi
    have o : ∀ k, 34 ≤ k → k ≤ 39 → mA (pA (pA (pA (pA (pA (pA (mSendC NW l) 71 l 0) 72 l (nI t)) 73 l (-2)) 74 l 0) 50 g (nI t)) 51 g (if why = 4 then 0 else 1)) k i = mA N2 k i := fun k k1 k2 => mo k i (by omega) (by omega) (by omega) (by omega) (by omega) (by omega) (by omega) (by omega) (by omega) (by omega)
    rw [o _ (by decide) (by decide)] at z
    rw [o _ (by decide) (by decide), o _ (by decide) (by decide), o _ (by decide) (by decide), o _ (by decide) (by decide)]
    exact hr2 i hi z
  · have q1 : ¬ j = 2 := by omega
    have q2 : ¬ j = 3 := by omega
    have e : sI (wI (wI (wK (wI A.1 4 l 4 (nI A.2)) 5 (l + 1, elU (nm 4) l (nm 4 l))) 3 g 2 (if why = 4 then 0 else 1)) 3 g 3 (nI t)) 3 i j = sI A.1 3 i j := by simp [sI_wI, sI_wK, q1, q2]
    rw [e, fr.2 3 i j (by decide) (by decide) (fun z => absurd z.1 (by decide))]
    exact hgs i j q
  · refine hf.tr ((fr.fm ⟨by decide, by decide, by decide⟩).tr ?_)
    exact (((cFm.xI ⟨by decide, by decide, by decide⟩).tr cFm.xK).tr (cFm.xI ⟨by decide, by decide, by decide⟩)).tr (cFm.xI ⟨by decide, by decide, by decide⟩)

