section COPY
variable {b : Bool} {E : awE} {M : awM} {pc : Nat} {lv lv' : List (Nat × Value)} {st : List Value} {S : awS} {kc ks : Nat} {Q : Option Value → awS → Nat → Nat → Prop}
theorem aw_nn : ∀ z : Int32, ¬ z < 0 → z.toInt = (z.toNatClampNeg : Int) := by
  intro z hz
  have hz0 : (0 : Int) ≤ z.toInt := by
    have := Int32.not_lt.mp hz
    simpa using Int32.le_iff_toInt_le.mp this
  show z.toInt = ((z.toInt.toNat : Nat) : Int)
  omega
def awAcp (own : String) (idx : Nat) : Prop := Cond.methodLink own idx arraycopyName ∈ awBig ∧ Cond.native arraycopyName ∈ awBig ∧ Cond.static arraycopyName ∈ awBig ∧ Cond.initialized "java/lang/System" ∈ awBig
theorem ax_copyL {idx f i g i2 : Nat} {sp dp n : Int32} (hd : decode (awM_c M) pc = .ok (.invokestatic idx, 3)) (hw : awAcp (awM_y M).cls idx) (hf : fK f = 21) (hg : fK g = 21) (hb : nb b f = true) (hb2 : nb b g = true) (h1 : ¬ sp < 0) (h2 : ¬ dp < 0) (h3 : ¬ n < 0) (h4 : sp.toNatClampNeg + n.toNatClampNeg ≤ sN S f i) (h5 : dp.toNatClampNeg + n.toNatClampNeg ≤ sN S g i2)
    (hroom : 1 ≤ awM_f M ∧ 40 ≤ awM_l M) (hst : (st.map fun v => v.category).sum ≤ 8) (kk : awX b E M (pc + 3) lv st (wLf S g i2 (va_cpy (sL S f i) (sL S g i2) sp.toNatClampNeg dp.toNatClampNeg n.toNatClampNeg)) kc ks Q) : awX b E M pc lv (.int n :: .int dp :: .ref (nm g i2) :: .int sp :: .ref (nm f i) :: st) S kc ks Q := by
  refine awX.step (S1 := wLf S g i2 (va_cpy (sL S f i) (sL S g i2) sp.toNatClampNeg dp.toNatClampNeg n.toNatClampNeg)) (fun n h => h) (Nat.le_refl _) (Nat.le_refl _) (fun p e R s m args below meth c0 H locs ad ls Z hC wf hR hlo hls hfr hlc _ _ kk => ?_) kk
  have hff := fK_row (f := f) (by rw [hf]; decide)
  have hgg := fK_row (f := g) (by rw [hg]; decide)
  have hl2 : lvN S (nm g i2) := wf.pop.pop.top
  have hl : lvN S (nm f i) := wf.pop.pop.pop.pop.top
  have hts := hC.2.2.2.2.2.2.1
  obtain ⟨w1, w2, w3, w4⟩ := hw
  obtain ⟨-, hat⟩ := awR_at hR hff.1 hff.2 hb hl
  obtain ⟨hlo1, hat2⟩ := awR_at hR hgg.1 hgg.2 hb2 hl2
  rw [awCell_J hf] at hat
  rw [awCell_J hg] at hat2
  intro T hT X
  have hc0 : H[ad (nm f i)]? = some (vp_cell (awE_A E 1) (sN S f i, .inr (.inl (fun j => sL S f i j)))) := hat
  have hc1 : H[ad (nm g i2)]? = some (vp_cell (awE_A E 1) (sN S g i2, .inr (.inl (fun j => sL S g i2 j)))) := hat2
  obtain ⟨-, k0, hk0, cm0, hkk0⟩ := (hC.2.2.2.2.2.2.2.1.1.2 1 _ rfl).1 (sN S f i) (fun j => .long ((fun j => sL S f i j) j))
  obtain ⟨-, k1, hk1, cm1, hkk1⟩ := (hC.2.2.2.2.2.2.2.1.1.2 1 _ rfl).1 (sN S g i2) (fun j => .long ((fun j => sL S g i2 j) j))
  obtain ⟨vm', X', step⟩ := X.arraycopy hC.1 hC.2.2.2.2.2.1 (hts _ w1) (hts _ w2) (hts _ w3) (hts _ w4) (src := ad (nm f i)) (dst := ad (nm g i2)) (cs := vp_cell (awE_A E 1) (sN S f i, .inr (.inl (fun j => sL S f i j)))) (cd := vp_cell (awE_A E 1) (sN S g i2, .inr (.inl (fun j => sL S g i2 j)))) (srcPos := sp) (destPos := dp) (n := n) (by rw [hT]; exact hc0) (by rw [hT]; exact hc1)
    (fun _ h => by cases h) (fun _ h => by cases h) (fun h => by cases h) (fun h => by cases h) hk0 hk1 hkk0 hkk1 rfl h1 h2 h3
    (by rw [aw_nn sp h1, aw_nn n h3]; show ¬ _ > ((arrV _ (sN S f i) _).slots.size : Int); rw [arrV_size]; omega)
    (by rw [aw_nn dp h2, aw_nn n h3]; show ¬ _ > ((arrV _ (sN S g i2) _).slots.size : Int); rw [arrV_size]; omega)
    (fun vm₁ hal j hj => by
      have e : (vp_cell (awE_A E 1) (sN S f i, .inr (.inl (fun j => sL S f i j)))).slots.getD (sp.toNatClampNeg + j) .null = .long ((fun j => sL S f i j) (sp.toNatClampNeg + j)) := by
        show (arrV _ (sN S f i) (fun j => .long ((fun j => sL S f i j) j))).slots.getD _ _ = _
        rw [Array.getD_eq_getD_getElem?, arrV_read _ _ (by omega)]
        rfl
      rw [e]
      exact ⟨rfl, trivial⟩)
    (g := F0 m pc ls (.int n :: .int dp :: .ref (ad (nm g i2)) :: .int sp :: .ref (ad (nm f i)) :: st.map (rnv ad))) rfl (by rw [hC.2.2.2.2.1]; exact hls.1) (rest := st.map (rnv ad)) rfl (by rw [hC.2.1]; exact hd) (Nat.le_trans hroom.1 hfr) (by
      have h8 := lv_room (m := m) (pc := pc) (ls := ls) (rest := .int n :: .int dp :: .ref (ad (nm g i2)) :: .int sp :: .ref (ad (nm f i)) :: st.map (rnv ad)) (st := st.map (rnv ad)) (by rw [List.map_map]; simp only [Function.comp_def, rnv_cat]; exact hst)
      have hw : nativeFrameWords "java/lang/System" "arraycopy" 5 ≤ 21 := by decide
      have h9 := Nat.le_trans hroom.2 hlc
      omega)
  have e1 : copied (vp_cell (awE_A E 1) (sN S f i, .inr (.inl (fun j => sL S f i j)))) (vp_cell (awE_A E 1) (sN S g i2, .inr (.inl (fun j => sL S g i2 j)))) sp dp n = vp_cell (awE_A E 1) (sN S g i2, .inr (.inl (va_cpy (fun j => sL S f i j) (fun j => sL S g i2 j) sp.toNatClampNeg dp.toNatClampNeg n.toNatClampNeg))) := by
    rw [vp_cell_l, vp_cell_l, vp_cell_l]
    exact va_copied (fun z => .long z) (awE_A E 1) (awE_A E 1) (fun j => sL S f i j) (fun j => sL S g i2 j) h4
  rw [e1] at X' step
  have hll : ad (nm g i2) < H.size := (Array.getElem?_eq_some_iff.mp hc1).1
  generalize hNC : vp_cell (awE_A E 1) (sN S g i2, .inr (.inl (va_cpy (fun j => sL S f i j) (fun j => sL S g i2 j) sp.toNatClampNeg dp.toNatClampNeg n.toNatClampNeg))) = NC at X' step
  have hheap : ((T.setVm vm').setCell (ad (nm g i2)) NC).heap = H.setIfInBounds (ad (nm g i2)) NC := by rw [← hT]; rfl
  have oq : ∀ q : Nat, q ≠ ad (nm g i2) → (H.setIfInBounds (ad (nm g i2)) NC)[q]? = H[q]? := fun q hq => by simp [Array.getElem?_setIfInBounds, Ne.symm hq]
  have hR1 : awR b E (wLf S g i2 (va_cpy (sL S f i) (sL S g i2) sp.toNatClampNeg dp.toNatClampNeg n.toNatClampNeg)) ad (H.setIfInBounds (ad (nm g i2)) NC) := by
    refine awR_wLf hR hgg.1 hgg.2 hb2 hl2 ?_ ?_ oq
    · rw [awCell_J hg]
      show (H.setIfInBounds (ad (nm g i2)) NC)[ad (nm g i2)]? = some (vp_cell _ (sN S g i2, _))
      rw [show (H.setIfInBounds (ad (nm g i2)) NC)[ad (nm g i2)]? = some NC by simp [Array.getElem?_setIfInBounds, hll], ← hNC]
      refine congrArg (fun z => some (vp_cell (awE_A E 1) (sN S g i2, .inr (.inl z)))) ?_
      funext j
      rw [sL_wLf, if_pos ⟨rfl, rfl⟩]
    · simp
  obtain ⟨t, a1, b1⟩ := kk _ _ ad ls awAg_rf wf.pop.pop.pop.pop.pop hR1 (fun q hq => by
      rcases List.mem_append.mp hq with h | h
      · exact hlo q h
      · obtain ⟨z, -, hz⟩ := List.mem_map.mp h
        rw [← hz]
        exact hlo1) hls _ hheap X'
  exact ⟨t, step t a1, b1⟩
theorem ax_copyO {idx f i g i2 : Nat} {sp dp n : Int32} (hd : decode (awM_c M) pc = .ok (.invokestatic idx, 3)) (hw : awAcp (awM_y M).cls idx) (hf : fK f = 25) (hg : fK g = 25) (hel : ∀ k r, sR S f i k = some r → fK (r % 256) < 14) (h1 : ¬ sp < 0) (h2 : ¬ dp < 0) (h3 : ¬ n < 0) (h4 : sp.toNatClampNeg + n.toNatClampNeg ≤ sN S f i) (h5 : dp.toNatClampNeg + n.toNatClampNeg ≤ sN S g i2)
    (hroom : 1 ≤ awM_f M ∧ 40 ≤ awM_l M) (hst : (st.map fun v => v.category).sum ≤ 8) (kk : awX false E M (pc + 3) lv st (wRf S g i2 (va_cpy (sR S f i) (sR S g i2) sp.toNatClampNeg dp.toNatClampNeg n.toNatClampNeg)) kc ks Q) : awX false E M pc lv (.int n :: .int dp :: .ref (nm g i2) :: .int sp :: .ref (nm f i) :: st) S kc ks Q := by
  refine awX.step (S1 := wRf S g i2 (va_cpy (sR S f i) (sR S g i2) sp.toNatClampNeg dp.toNatClampNeg n.toNatClampNeg)) (fun n h => h) (Nat.le_refl _) (Nat.le_refl _) (fun p e R s m args below meth c0 H locs ad ls Z hC wf hR hlo hls hfr hlc _ _ kk => ?_) kk
  have hff := fK_row (f := f) (by rw [hf]; decide)
  have hgg := fK_row (f := g) (by rw [hg]; decide)
  have hl2 : lvN S (nm g i2) := wf.pop.pop.top
  have hl : lvN S (nm f i) := wf.pop.pop.pop.pop.top
  have hts := hC.2.2.2.2.2.2.1
  obtain ⟨w1, w2, w3, w4⟩ := hw
  obtain ⟨-, hat⟩ := awR_at hR hff.1 hff.2 rfl hl
  obtain ⟨hlo1, hat2⟩ := awR_at hR hgg.1 hgg.2 rfl hl2
  rw [awCell_O hf] at hat
  rw [awCell_O hg] at hat2
  intro T hT X
  have hc0 : H[ad (nm f i)]? = some (vp_cell (awE_A E 5) (sN S f i, .inr (.inr (.inr (.inr (fun j => (sR S f i j).map ad)))))) := hat
  have hc1 : H[ad (nm g i2)]? = some (vp_cell (awE_A E 5) (sN S g i2, .inr (.inr (.inr (.inr (fun j => (sR S g i2 j).map ad)))))) := hat2
  obtain ⟨-, k0, hk0, cm0, hkk0⟩ := (hC.2.2.2.2.2.2.2.1.1.2 5 _ rfl).1 (sN S f i) (fun j => va_rf ((fun j => (sR S f i j).map ad) j))
  obtain ⟨-, k1, hk1, cm1, hkk1⟩ := (hC.2.2.2.2.2.2.2.1.1.2 5 _ rfl).1 (sN S g i2) (fun j => va_rf ((fun j => (sR S g i2 j).map ad) j))
  obtain ⟨vm', X', step⟩ := X.arraycopy hC.1 hC.2.2.2.2.2.1 (hts _ w1) (hts _ w2) (hts _ w3) (hts _ w4) (src := ad (nm f i)) (dst := ad (nm g i2)) (cs := vp_cell (awE_A E 5) (sN S f i, .inr (.inr (.inr (.inr (fun j => (sR S f i j).map ad)))))) (cd := vp_cell (awE_A E 5) (sN S g i2, .inr (.inr (.inr (.inr (fun j => (sR S g i2 j).map ad)))))) (srcPos := sp) (destPos := dp) (n := n) (by rw [hT]; exact hc0) (by rw [hT]; exact hc1)
    (fun _ h => by cases h) (fun _ h => by cases h) (fun h => by cases h) (fun h => by cases h) hk0 hk1 hkk0 hkk1 rfl h1 h2 h3
    (by rw [aw_nn sp h1, aw_nn n h3]; show ¬ _ > ((arrV _ (sN S f i) _).slots.size : Int); rw [arrV_size]; omega)
    (by rw [aw_nn dp h2, aw_nn n h3]; show ¬ _ > ((arrV _ (sN S g i2) _).slots.size : Int); rw [arrV_size]; omega)
    (fun vm₁ hal j hj => by
      have e : (vp_cell (awE_A E 5) (sN S f i, .inr (.inr (.inr (.inr (fun j => (sR S f i j).map ad)))))).slots.getD (sp.toNatClampNeg + j) .null = va_rf ((fun j => (sR S f i j).map ad) (sp.toNatClampNeg + j)) := by
        show (arrV _ (sN S f i) (fun j => va_rf ((fun j => (sR S f i j).map ad) j))).slots.getD _ _ = _
        rw [Array.getD_eq_getD_getElem?, arrV_read _ _ (by omega)]
        rfl
      rw [e]
      dsimp only
      cases hy : sR S f i (sp.toNatClampNeg + j) with
      | none => exact ⟨rfl, trivial⟩
      | some y =>
        have hy1 : lvN S y := awR_cl (b := false) hR hff.2 rfl hl hy
        have hyf := hel _ _ hy
        obtain ⟨cellV, g1, g2, g3⟩ := awR_recv (b := false) (f := y % 256) (i := y / 256) hC.2.2.2.2.2.2.2.1 hR rfl hyf (by rw [nm_self]; exact hy1)
        rw [nm_self] at g1
        obtain ⟨c0', t0', f1, f2, hasg⟩ := Cond.castable_spec (va_Nw.use (A := args) rfl (hC.2.2.2.2.2.2.2.1.2.2.2.2.1 _ (awCst_o _ hyf)))
        cases f1.symm.trans g3
        obtain ⟨kA, comp, r1, r2, r3, -⟩ := (hC.2.2.2.2.2.2.2.1.1.2 5 _ rfl).2
        cases hk1.symm.trans r1
        cases hkk1.symm.trans r2
        cases f2.symm.trans r3
        obtain ⟨kE, hkE, -⟩ := Vm.findClass_spec r3
        obtain ⟨kC, hkC, -⟩ := Vm.findClass_spec g3
        obtain ⟨kC', hkC', -⟩ := hal.2.2 _ _ hkC
        obtain ⟨kE', hkE', -⟩ := hal.2.2 _ _ hkE
        refine ⟨rfl, cellV, (show T.heap[ad y]? = some cellV by rw [hT]; exact g1), (fun q h => by rw [h] at g2; cases g2), ⟨kC', hkC'⟩, ?_, ?_⟩
        · exact ⟨kE', hkE'⟩
        · show vm₁.assignable _ _ = true
          rw [hal.assignable]
          exact hasg)
    (g := F0 m pc ls (.int n :: .int dp :: .ref (ad (nm g i2)) :: .int sp :: .ref (ad (nm f i)) :: st.map (rnv ad))) rfl (by rw [hC.2.2.2.2.1]; exact hls.1) (rest := st.map (rnv ad)) rfl (by rw [hC.2.1]; exact hd) (Nat.le_trans hroom.1 hfr) (by
      have h8 := lv_room (m := m) (pc := pc) (ls := ls) (rest := .int n :: .int dp :: .ref (ad (nm g i2)) :: .int sp :: .ref (ad (nm f i)) :: st.map (rnv ad)) (st := st.map (rnv ad)) (by rw [List.map_map]; simp only [Function.comp_def, rnv_cat]; exact hst)
      have hw : nativeFrameWords "java/lang/System" "arraycopy" 5 ≤ 21 := by decide
      have h9 := Nat.le_trans hroom.2 hlc
      omega)
  have e1 : copied (vp_cell (awE_A E 5) (sN S f i, .inr (.inr (.inr (.inr (fun j => (sR S f i j).map ad)))))) (vp_cell (awE_A E 5) (sN S g i2, .inr (.inr (.inr (.inr (fun j => (sR S g i2 j).map ad)))))) sp dp n = vp_cell (awE_A E 5) (sN S g i2, .inr (.inr (.inr (.inr (va_cpy (fun j => (sR S f i j).map ad) (fun j => (sR S g i2 j).map ad) sp.toNatClampNeg dp.toNatClampNeg n.toNatClampNeg))))) := by
    rw [vp_cell_q, vp_cell_q, vp_cell_q]
    exact va_copied (fun z => va_rf z) (awE_A E 5) (awE_A E 5) (fun j => (sR S f i j).map ad) (fun j => (sR S g i2 j).map ad) h4
  rw [e1] at X' step
  have hll : ad (nm g i2) < H.size := (Array.getElem?_eq_some_iff.mp hc1).1
  generalize hNC : vp_cell (awE_A E 5) (sN S g i2, .inr (.inr (.inr (.inr (va_cpy (fun j => (sR S f i j).map ad) (fun j => (sR S g i2 j).map ad) sp.toNatClampNeg dp.toNatClampNeg n.toNatClampNeg))))) = NC at X' step
  have hheap : ((T.setVm vm').setCell (ad (nm g i2)) NC).heap = H.setIfInBounds (ad (nm g i2)) NC := by rw [← hT]; rfl
  have oq : ∀ q : Nat, q ≠ ad (nm g i2) → (H.setIfInBounds (ad (nm g i2)) NC)[q]? = H[q]? := fun q hq => by simp [Array.getElem?_setIfInBounds, Ne.symm hq]
  have hR1 : awR false E (wRf S g i2 (va_cpy (sR S f i) (sR S g i2) sp.toNatClampNeg dp.toNatClampNeg n.toNatClampNeg)) ad (H.setIfInBounds (ad (nm g i2)) NC) := by
    refine awR0_wRf hR hgg.1 hgg.2 hl2 (fun k r hr => by
      unfold va_cpy at hr
      split at hr
      · exact awR_cl (b := false) hR hff.2 rfl hl hr
      · exact awR_cl (b := false) hR hgg.2 rfl hl2 hr) ?_ ?_ oq
    · rw [awCell_O hg]
      show (H.setIfInBounds (ad (nm g i2)) NC)[ad (nm g i2)]? = some (vp_cell _ (sN S g i2, _))
      rw [show (H.setIfInBounds (ad (nm g i2)) NC)[ad (nm g i2)]? = some NC by simp [Array.getElem?_setIfInBounds, hll], ← hNC]
      refine congrArg (fun z => some (vp_cell (awE_A E 5) (sN S g i2, .inr (.inr (.inr (.inr z)))))) ?_
      funext j
      rw [sR_wRf, if_pos ⟨rfl, rfl⟩]
      show _ = Option.map ad (va_cpy (sR S f i) (sR S g i2) sp.toNatClampNeg dp.toNatClampNeg n.toNatClampNeg j)
      unfold va_cpy
      by_cases hj : dp.toNatClampNeg ≤ j ∧ j < dp.toNatClampNeg + n.toNatClampNeg
      · rw [if_pos hj, if_pos hj]
      · rw [if_neg hj, if_neg hj]
    · simp
  obtain ⟨t, a1, b1⟩ := kk _ _ ad ls awAg_rf wf.pop.pop.pop.pop.pop hR1 (fun q hq => by
      rcases List.mem_append.mp hq with h | h
      · exact hlo q h
      · obtain ⟨z, -, hz⟩ := List.mem_map.mp h
        rw [← hz]
        exact hlo1) hls _ hheap X'
  exact ⟨t, step t a1, b1⟩
theorem ax_getC {idx f i : Nat} (hd : decode (awM_c M) pc = .ok (.invokevirtual idx, 3)) (hw : Cond.methodLink (awM_y M).cls idx ⟨"java/lang/Object", "getClass", "()Ljava/lang/Class;"⟩ ∈ awBig) (w2 : Cond.selects "[Ljava/lang/Object;" ⟨"java/lang/Object", "getClass", "()Ljava/lang/Class;"⟩ ⟨"java/lang/Object", "getClass", "()Ljava/lang/Class;"⟩ ∈ awBig) (w3 : Cond.instanceMethod ⟨"java/lang/Object", "getClass", "()Ljava/lang/Class;"⟩ ∈ awBig) (w4 : Cond.native ⟨"java/lang/Object", "getClass", "()Ljava/lang/Class;"⟩ ∈ awBig)
    (hf : fK f = 25) (hb : nb b f = true) (hroom : 1 ≤ awM_f M ∧ 40 ≤ awM_l M) (hst : (st.map fun v => v.category).sum ≤ 8) (k : awX b E M (pc + 3) lv (.ref nmC :: st) S kc ks Q) : awX b E M pc lv (.ref (nm f i) :: st) S kc ks Q := by
  refine awX.step awUp_rf (Nat.le_refl _) (Nat.le_refl _) (fun p e R s m args below meth c0 H locs ad ls Z hC wf hR hlo hls hfr hlc _ _ kk => ?_) k
  have hff := fK_row (f := f) (by rw [hf]; decide)
  have hat := (awR_at hR hff.1 hff.2 hb wf.top).2
  rw [awCell_O hf] at hat
  have hl := awR_low hR
  have hts := hC.2.2.2.2.2.2.1
  have k2 := kk H locs ad ls awAg_rf (wf.pop.push (v := .ref nmC) hl.2.2.2.2.2.2.2.2.2) hR hlo hls
  rw [List.map_cons, show rnv ad (.ref nmC) = .ref (awE_c E) from congrArg Value.ref hl.2.2.2.2.1] at k2
  obtain ⟨kA, comp, r1, r2, r3, r4⟩ := (hC.2.2.2.2.2.2.2.1.1.2 5 _ rfl).2
  exact va_getC hC.1 hC.2.1 (hC.2.2.2.2.1.trans hls.1.symm) hC.2.2.2.2.2.1 (hts _ hw) hC.2.2.2.2.2.2.2.1.2.2.2.2.2.2.2.2.2.use (hts _ w2) (hts _ w3) (hts _ w4) hC.2.2.2.2.2.2.2.1.2.2.2.2.2.2.2.2.1 ⟨_, hat, rfl, r4⟩ (Nat.le_trans hroom.1 hfr) (by rw [List.map_map]; simp only [Function.comp_def, rnv_cat]; have h9 := Nat.le_trans hroom.2 hlc; omega) hd k2
end COPY
