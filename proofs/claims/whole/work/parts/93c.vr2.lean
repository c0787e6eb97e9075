section HEAP
variable {b : Bool} {E : awE} {M : awM} {pc : Nat} {lv lv' : List (Nat × Value)} {st : List Value} {S : awS} {kc ks : Nat} {Q : Option Value → awS → Nat → Nat → Prop}
theorem av_get {idx f i c k : Nat} {v : Value} (hd : decode (awM_c M) pc = .ok (.getfield idx, 3)) (hw : awFld (awM_y M).cls idx c k) (hf : fK f = c) (hb : nb b f = true) (hv : ∀ ad, rnv ad v = fv ad S f i c k) (hlv : ∀ n, v = .ref n → sR S f i k = some n) (kk : awV b E M (pc + 3) lv (v :: st) S kc ks Q) : awV b E M pc lv (.ref (nm f i) :: st) S kc ks Q := by
  obtain ⟨hc, hk, hw⟩ := hw
  refine awV.step awUp_rf (Nat.le_refl _) (Nat.le_refl _) (fun p e R s m args below meth c0 H locs ad ls Z hC wf hR hlo hls _ _ _ _ kk => ?_) kk
  have hff := fK_obj (by rw [hf]; exact hc)
  have hl : lvN S (nm f i) := wf.top
  have hat := (awR_at hR hff.1 hff.2 hb hl).2
  rw [awCell_obj hf hc] at hat
  have wf' : awWf S lv (v :: st) := wf.pop.push (by
    cases v with
    | ref n => exact awR_cl hR hff.2 hb hl (hlv n rfl)
    | _ => exact trivial)
  have k2 := kk H locs ad ls awAg_rf wf' hR hlo hls
  rw [List.map_cons, hv ad] at k2
  exact va_get (D := awE_D E) (cl := vwCl) hC.1 hC.2.1 hC.2.2.2.2.2.2.1 (oWs c hc) hC.2.2.2.2.2.1 hC.2.2.2.2.2.2.2.1.1 (va_P1 hat) 0 rfl (oCl_at c hc) k hk (hC.2.2.2.2.2.2.1 _ hw) (fun _ h => h) (fs_get hk) hd k2
theorem av_getI {idx f i c k : Nat} (hd : decode (awM_c M) pc = .ok (.getfield idx, 3)) (hw : awFld (awM_y M).cls idx c k) (hf : fK f = c) (hb : nb b f = true) (ht : tyK (oTy c k) = 0) (kk : awV b E M (pc + 3) lv (.int (sI S f i k) :: st) S kc ks Q) : awV b E M pc lv (.ref (nm f i) :: st) S kc ks Q :=
  av_get hd hw hf hb (fun ad => by unfold fv; rw [ht]; rfl) (fun n h => by cases h) kk
theorem av_getL {idx f i c k : Nat} (hd : decode (awM_c M) pc = .ok (.getfield idx, 3)) (hw : awFld (awM_y M).cls idx c k) (hf : fK f = c) (hb : nb b f = true) (ht : tyK (oTy c k) = 1) (kk : awV b E M (pc + 3) lv (.long (sL S f i k) :: st) S kc ks Q) : awV b E M pc lv (.ref (nm f i) :: st) S kc ks Q :=
  av_get hd hw hf hb (fun ad => by unfold fv; rw [ht]; rfl) (fun n h => by cases h) kk
theorem av_getQ {idx f i c k : Nat} {r : Option Nat} (hd : decode (awM_c M) pc = .ok (.getfield idx, 3)) (hw : awFld (awM_y M).cls idx c k) (hf : fK f = c) (hb : nb b f = true) (ht : tyK (oTy c k) = 2) (hr : sR S f i k = r) (kk : awV b E M (pc + 3) lv (va_rf r :: st) S kc ks Q) : awV b E M pc lv (.ref (nm f i) :: st) S kc ks Q :=
  av_get hd hw hf hb (fun ad => by unfold fv; rw [ht, rnv_rf, hr]; rfl) (fun n h => by cases r with
    | none => cases h
    | some x => cases h; exact hr) kk
theorem av_getR {idx f i c k n : Nat} (hd : decode (awM_c M) pc = .ok (.getfield idx, 3)) (hw : awFld (awM_y M).cls idx c k) (hf : fK f = c) (hb : nb b f = true) (ht : tyK (oTy c k) = 2) (hr : sR S f i k = some n) (kk : awV b E M (pc + 3) lv (.ref n :: st) S kc ks Q) : awV b E M pc lv (.ref (nm f i) :: st) S kc ks Q :=
  av_getQ (r := some n) hd hw hf hb ht hr kk
theorem av_put {idx f i c k : Nat} {v : Value} {S1 : awS} (hd : decode (awM_c M) pc = .ok (.putfield idx, 3)) (hw : awFld (awM_y M).cls idx c k) (hf : fK f = c) (hfin : ((oCl c).2.1 k).2.2.2 = false ∨ (((oCl c).2.1 k).2.2.2 = true ∧ awM_i M = true ∧ ((oCl c).2.1 k).1 = (awM_y M).cls))
    (hn : ∀ ad, narrow (oTy c k) (rnv ad v) = rnv ad v) (hfit : ∀ ad, fits (oTy c k) (rnv ad v) = true) (hC1 : ∀ f, sC S1 f = sC S f)
    (hset : ∀ (ad : Nat → Nat) (H H1 : Heap), lvV S v → awR b E S ad H → lvN S (nm f i) → va_at (awE_D E) vwCl (ad (nm f i), awCell (awE_A E) ad S1 f i) H1 → H1.size = H.size → (∀ q, q ≠ ad (nm f i) → H1[q]? = H[q]?) → awR b E S1 ad H1)
    (hb : nb b f = true) (hcell : ∀ ad j, j < (oCl c).2.2 → fv ad S1 f i c j = if j = k then rnv ad v else fv ad S f i c j) (kk : awV b E M (pc + 3) lv st S1 kc ks Q) : awV b E M pc lv (v :: .ref (nm f i) :: st) S kc ks Q := by
  obtain ⟨hc, hk, hw⟩ := hw
  have hlvN : ∀ n, lvN S1 n ↔ lvN S n := fun n => by unfold lvN; rw [hC1]
  have hlvV : ∀ v, lvV S v → lvV S1 v := fun v h => by cases v <;> first | exact (hlvN _).mpr h | exact h
  refine awV.step (fun n h => (hlvN n).mpr h) (Nat.le_refl _) (Nat.le_refl _) (fun p e R s m args below meth c0 H locs ad ls Z hC wf hR hlo hls _ _ _ _ kk => ?_) kk
  have hff := fK_obj (by rw [hf]; exact hc)
  have hl : lvN S (nm f i) := wf.pop.top
  obtain ⟨hlo1, hat⟩ := awR_at hR hff.1 hff.2 hb hl
  rw [awCell_obj hf hc] at hat
  have wf' : awWf S1 lv st := ⟨fun q hq => hlvV _ (wf.1 q hq), fun q hq => hlvV _ (wf.pop.pop.2 q hq)⟩
  have hK := hC.2.2.2.2.2.2.2.1.1
  have hts := hC.2.2.2.2.2.2.1
  have hin := oWs c hc
  have hap := va_apart (own := (awM_y M).cls) hts hin (oTy c) (oTy_ok c hc) (oNm c hc) hK (oCl_at c hc)
  obtain ⟨r, h1, cell, q1, q2, q3, q4⟩ := hat
  have hr : r = ((oCl c).1, (oCl c).2.1, (oCl c).2.2) := Option.some.inj (h1.symm.trans (oCl_at c hc))
  subst hr
  obtain ⟨hS, hfc, kC, hkC, hkind⟩ := hK.1 c _ (oCl_at c hc)
  obtain ⟨cf, kf, fi, fd, hi, hsl⟩ := hS k hk
  have hlay := hts _ (hin _ (u_in_lay hk))
  have hst := (u_facts hfc hkC (u_lays hts hin hk) hi).1
  have fin : ∀ H' : Heap, H'[ad (nm f i)]? = some (cell.setSlot fd.slot (rnv ad v)) → H'.size = H.size → (∀ q, q ≠ ad (nm f i) → H'[q]? = H[q]?) → W p (awE_l E) e R s m args below meth c0 H' (locs ++ [⟨ad (nm f i), fd.slot⟩]) kc ks Z (F0 m (pc + 3) ls (st.map (rnv ad))) := by
    intro H' e1 e2 e3
    rw [hsl] at e1
    refine kk H' _ ad ls awAg_rf wf' (hset ad H H' wf.top hR hl ?_ e2 e3) (fun q hq => ?_) hls
    · rw [awCell_obj hf hc]
      refine ⟨_, oCl_at c hc, t_OB.to (V := updV (vp_V (fs ad S f i c)) k (rnv ad v)) ⟨_, e1, q2, q3, t_set q4 hap hk (rnv ad v)⟩ (fun j hj => ?_)⟩
      rw [vpV_fs hj, hcell ad j hj]
      unfold updV
      rw [vpV_fs hj]
    · rcases List.mem_append.mp hq with h | h
      · exact hlo q h
      · rw [List.mem_singleton.mp h]; exact hlo1
  rcases hfin with hfin | ⟨hfin, hin2, hdecl⟩
  · unfold u_lay at hlay
    rw [if_neg (by rw [hfin]; decide)] at hlay
    have h6 := u_store hfc hkC hkind hlay hi (oTy_ok c hc k hk) (hn ad) (hfit ad)
    exact W.putK hC.1 hC.2.1 (f := fd) ⟨hC.2.2.2.2.2.1, hts _ hw, ⟨_, _, _, hi⟩, hst⟩ (by rw [q2]; exact h6) q1 q3 (by rw [hsl]; exact k2_hasslot (q4 k hk)) rfl rfl hd fin
  · unfold u_lay at hlay
    rw [if_pos hfin] at hlay
    have hcf : m.cls = cf := by
      obtain ⟨_, _, c', _, _, _, -, -, hf', -, -, -, hown2, -⟩ := Cond.laysFinal_spec hlay
      have e1 : c' = cf := by have := hi.symm.trans hf'; simp at this; exact this.1.symm
      rw [hdecl] at hown2
      rw [← e1]; exact Option.some.inj (hC.2.2.2.2.2.1.symm.trans hown2)
    have h6 := u_fits hfc hkC hkind (Or.inr hlay) hi (oTy_ok c hc k hk) (hn ad) (hfit ad)
    exact W.putFinK hC.1 hC.2.1 hC.2.2.2.2.2.1 (hts _ hw) hi hst hcf (hC.2.2.2.2.2.2.2.2.1 hin2) (by rw [q2]; exact h6) q1 q3 (by rw [hsl]; exact k2_hasslot (q4 k hk)) rfl rfl hd fin
theorem av_putI {idx f i c k : Nat} {x : Int32} (hd : decode (awM_c M) pc = .ok (.putfield idx, 3)) (hw : awFld (awM_y M).cls idx c k) (hf : fK f = c) (hb : nb b f = true) (ht : tyK (oTy c k) = 0) (hfin : ((oCl c).2.1 k).2.2.2 = false ∨ (((oCl c).2.1 k).2.2.2 = true ∧ awM_i M = true ∧ ((oCl c).2.1 k).1 = (awM_y M).cls))
    (hn : narrow (oTy c k) (.int x) = .int x) (hfit : fits (oTy c k) (.int x) = true) (kk : awV b E M (pc + 3) lv st (wI S f i k x) kc ks Q) : awV b E M pc lv (.int x :: .ref (nm f i) :: st) S kc ks Q := by
  have hff := fK_obj (by rw [hf]; exact hw.1)
  refine av_put (S1 := wI S f i k x) hd hw hf hfin (fun _ => hn) (fun _ => hfit) (fun _ => rfl) (fun ad H H1 hv hR hl he hz ho => awR_wI hR hff.1 hff.2 hb hl he hz ho) hb (fun ad j hj => ?_) kk
  unfold fv
  by_cases e : j = k
  · subst e
    rw [if_pos rfl, ht]
    show Value.int (sI (wI S f i j x) f i j) = _
    rw [sI_wI, if_pos ⟨rfl, rfl, rfl⟩]; rfl
  · rw [if_neg e, sI_wI, if_neg (fun z => e z.2.2)]; rfl
theorem av_putL {idx f i c k : Nat} {x : Int64} (hd : decode (awM_c M) pc = .ok (.putfield idx, 3)) (hw : awFld (awM_y M).cls idx c k) (hf : fK f = c) (hb : nb b f = true) (ht : tyK (oTy c k) = 1) (hfin : ((oCl c).2.1 k).2.2.2 = false ∨ (((oCl c).2.1 k).2.2.2 = true ∧ awM_i M = true ∧ ((oCl c).2.1 k).1 = (awM_y M).cls))
    (hn : narrow (oTy c k) (.long x) = .long x) (hfit : fits (oTy c k) (.long x) = true) (kk : awV b E M (pc + 3) lv st (wL S f i k x) kc ks Q) : awV b E M pc lv (.long x :: .ref (nm f i) :: st) S kc ks Q := by
  have hff := fK_obj (by rw [hf]; exact hw.1)
  refine av_put (S1 := wL S f i k x) hd hw hf hfin (fun _ => hn) (fun _ => hfit) (fun _ => rfl) (fun ad H H1 hv hR hl he hz ho => awR_wL hR hff.1 hff.2 hb hl he hz ho) hb (fun ad j hj => ?_) kk
  unfold fv
  by_cases e : j = k
  · subst e
    rw [if_pos rfl, ht]
    show Value.long (sL (wL S f i j x) f i j) = _
    rw [sL_wL, if_pos ⟨rfl, rfl, rfl⟩]; rfl
  · rw [if_neg e, sL_wL, if_neg (fun z => e z.2.2)]; rfl
theorem av_putQ {idx f i c k : Nat} {r : Option Nat} (hd : decode (awM_c M) pc = .ok (.putfield idx, 3)) (hw : awFld (awM_y M).cls idx c k) (hf : fK f = c) (hb : nb b f = true) (ht : tyK (oTy c k) = 2) (hfin : ((oCl c).2.1 k).2.2.2 = false ∨ (((oCl c).2.1 k).2.2.2 = true ∧ awM_i M = true ∧ ((oCl c).2.1 k).1 = (awM_y M).cls))
    (kk : awV b E M (pc + 3) lv st (wR S f i k r) kc ks Q) : awV b E M pc lv (va_rf r :: .ref (nm f i) :: st) S kc ks Q := by
  have hff := fK_obj (by rw [hf]; exact hw.1)
  have hn : ∀ o : Option Nat, narrow (oTy c k) (va_rf o) = va_rf o := fun o => by cases hq : oTy c k <;> rw [hq] at ht <;> first | (cases ht; done) | (cases o <;> rfl)
  have hfit : ∀ o : Option Nat, fits (oTy c k) (va_rf o) = true := fun o => by cases hq : oTy c k <;> rw [hq] at ht <;> first | (cases ht; done) | (cases o <;> rfl)
  refine av_put (S1 := wR S f i k r) hd hw hf hfin (fun ad => by rw [rnv_rf]; exact hn _) (fun ad => by rw [rnv_rf]; exact hfit _) (fun _ => rfl) (fun ad H H1 hv hR hl he hz ho => awR_wR hR hff.1 hff.2 hb hl (fun n e => by subst e; exact hv) he hz ho) hb (fun ad j hj => ?_) kk
  unfold fv
  by_cases e : j = k
  · subst e
    rw [if_pos rfl, ht, rnv_rf]
    show va_rf ((sR (wR S f i j r) f i j).map ad) = _
    rw [sR_wR, if_pos ⟨rfl, rfl, rfl⟩]
  · rw [if_neg e, sR_wR, if_neg (fun z => e z.2.2)]; rfl
theorem av_putR {idx f i c k n : Nat} (hd : decode (awM_c M) pc = .ok (.putfield idx, 3)) (hw : awFld (awM_y M).cls idx c k) (hf : fK f = c) (hb : nb b f = true) (ht : tyK (oTy c k) = 2) (hfin : ((oCl c).2.1 k).2.2.2 = false ∨ (((oCl c).2.1 k).2.2.2 = true ∧ awM_i M = true ∧ ((oCl c).2.1 k).1 = (awM_y M).cls))
    (kk : awV b E M (pc + 3) lv st (wR S f i k (some n)) kc ks Q) : awV b E M pc lv (.ref n :: .ref (nm f i) :: st) S kc ks Q := av_putQ (r := some n) hd hw hf hb ht hfin kk
theorem av_putN {idx f i c k : Nat} (hd : decode (awM_c M) pc = .ok (.putfield idx, 3)) (hw : awFld (awM_y M).cls idx c k) (hf : fK f = c) (hb : nb b f = true) (ht : tyK (oTy c k) = 2) (hfin : ((oCl c).2.1 k).2.2.2 = false ∨ (((oCl c).2.1 k).2.2.2 = true ∧ awM_i M = true ∧ ((oCl c).2.1 k).1 = (awM_y M).cls))
    (kk : awV b E M (pc + 3) lv st (wR S f i k none) kc ks Q) : awV b E M pc lv (.null :: .ref (nm f i) :: st) S kc ks Q := av_putQ (r := none) hd hw hf hb ht hfin kk
end HEAP

section ROWS
variable {b : Bool} {E : awE} {M : awM} {pc : Nat} {lv lv' : List (Nat × Value)} {st : List Value} {S : awS} {kc ks : Nat} {Q : Option Value → awS → Nat → Nat → Prop}
theorem av_iald {f i : Nat} {x : Int32} (hd : decode (awM_c M) pc = .ok (.iaload, 1)) (hf : fK f = 20) (hb : nb b f = true) (hin : vp_in x (sN S f i)) (kk : awV b E M (pc + 1) lv (.int (sI S f i x.toNatClampNeg) :: st) S kc ks Q) : awV b E M pc lv (.int x :: .ref (nm f i) :: st) S kc ks Q := by
  refine awV.step awUp_rf (Nat.le_refl _) (Nat.le_refl _) (fun p e R s m args below meth c0 H locs ad ls Z hC wf hR hlo hls _ _ _ _ kk => ?_) kk
  have hff := fK_row (by rw [hf]; decide)
  have hat := (awR_at hR hff.1 hff.2 hb wf.pop.top).2
  rw [awCell_I hf] at hat
  exact va_iald hC.1 hC.2.1 hC.2.2.2.2.2.2.2.1.1 (va_P1 hat) 0 0 rfl rfl hin hd (kk H locs ad ls awAg_rf (wf.pop.pop.push (v := .int (sI S f i x.toNatClampNeg)) trivial) hR hlo hls)
theorem av_lald {f i : Nat} {x : Int32} (hd : decode (awM_c M) pc = .ok (.laload, 1)) (hf : fK f = 21) (hb : nb b f = true) (hin : vp_in x (sN S f i)) (kk : awV b E M (pc + 1) lv (.long (sL S f i x.toNatClampNeg) :: st) S kc ks Q) : awV b E M pc lv (.int x :: .ref (nm f i) :: st) S kc ks Q := by
  refine awV.step awUp_rf (Nat.le_refl _) (Nat.le_refl _) (fun p e R s m args below meth c0 H locs ad ls Z hC wf hR hlo hls _ _ _ _ kk => ?_) kk
  have hff := fK_row (by rw [hf]; decide)
  have hat := (awR_at hR hff.1 hff.2 hb wf.pop.top).2
  rw [awCell_J hf] at hat
  exact va_lald hC.1 hC.2.1 hC.2.2.2.2.2.2.2.1.1 (va_P1 hat) 0 1 rfl rfl hin hd (kk H locs ad ls awAg_rf (wf.pop.pop.push (v := .long (sL S f i x.toNatClampNeg)) trivial) hR hlo hls)
theorem av_zald {f i : Nat} {x : Int32} (hd : decode (awM_c M) pc = .ok (.baload, 1)) (hf : fK f = 22) (hb : nb b f = true) (hin : vp_in x (sN S f i)) (kk : awV b E M (pc + 1) lv (.int (sI S f i x.toNatClampNeg) :: st) S kc ks Q) : awV b E M pc lv (.int x :: .ref (nm f i) :: st) S kc ks Q := by
  refine awV.step awUp_rf (Nat.le_refl _) (Nat.le_refl _) (fun p e R s m args below meth c0 H locs ad ls Z hC wf hR hlo hls _ _ _ _ kk => ?_) kk
  have hff := fK_row (by rw [hf]; decide)
  have hat := (awR_at hR hff.1 hff.2 hb wf.pop.top).2
  rw [awCell_Z hf] at hat
  exact va_zald hC.1 hC.2.1 hC.2.2.2.2.2.2.2.1.1 (va_P1 hat) 0 2 rfl rfl hin hd (kk H locs ad ls awAg_rf (wf.pop.pop.push (v := .int (sI S f i x.toNatClampNeg)) trivial) hR hlo hls)
theorem av_bald {f i : Nat} {x : Int32} (hd : decode (awM_c M) pc = .ok (.baload, 1)) (hf : fK f = 23) (hb : nb b f = true) (hin : vp_in x (sN S f i)) (kk : awV b E M (pc + 1) lv (.int (sI S f i x.toNatClampNeg) :: st) S kc ks Q) : awV b E M pc lv (.int x :: .ref (nm f i) :: st) S kc ks Q := by
  refine awV.step awUp_rf (Nat.le_refl _) (Nat.le_refl _) (fun p e R s m args below meth c0 H locs ad ls Z hC wf hR hlo hls _ _ _ _ kk => ?_) kk
  have hff := fK_row (by rw [hf]; decide)
  have hat := (awR_at hR hff.1 hff.2 hb wf.pop.top).2
  rw [awCell_B hf] at hat
  exact va_bald hC.1 hC.2.1 hC.2.2.2.2.2.2.2.1.1 (va_P1 hat) 0 3 rfl rfl hin hd (kk H locs ad ls awAg_rf (wf.pop.pop.push (v := .int (sI S f i x.toNatClampNeg)) trivial) hR hlo hls)
theorem av_aald {f i : Nat} {x : Int32} {r : Option Nat} (hd : decode (awM_c M) pc = .ok (.aaload, 1)) (hf : fK f = 24) (hb : nb b f = true) (hin : vp_in x (sN S f i)) (hr : sR S f i x.toNatClampNeg = r) (kk : awV b E M (pc + 1) lv (va_rf r :: st) S kc ks Q) : awV b E M pc lv (.int x :: .ref (nm f i) :: st) S kc ks Q := by
  subst hr
  refine awV.step awUp_rf (Nat.le_refl _) (Nat.le_refl _) (fun p e R s m args below meth c0 H locs ad ls Z hC wf hR hlo hls _ _ _ _ kk => ?_) kk
  have hff := fK_row (by rw [hf]; decide)
  have hl := wf.pop.top
  have hat := (awR_at hR hff.1 hff.2 hb hl).2
  rw [awCell_A hf] at hat
  have k2 := kk H locs ad ls awAg_rf (wf.pop.pop.push (v := va_rf (sR S f i x.toNatClampNeg)) (by
    cases hr : sR S f i x.toNatClampNeg with
    | none => exact trivial
    | some r => exact awR_cl hR hff.2 hb hl hr)) hR hlo hls
  rw [List.map_cons, rnv_rf] at k2
  exact va_aldq hC.1 hC.2.1 hC.2.2.2.2.2.2.2.1.1 (va_P1 hat) 0 4 rfl rfl hin hd k2
theorem av_oald {f i : Nat} {x : Int32} {r : Option Nat} (hd : decode (awM_c M) pc = .ok (.aaload, 1)) (hf : fK f = 25) (hb : nb b f = true) (hin : vp_in x (sN S f i)) (hr : sR S f i x.toNatClampNeg = r) (kk : awV b E M (pc + 1) lv (va_rf r :: st) S kc ks Q) : awV b E M pc lv (.int x :: .ref (nm f i) :: st) S kc ks Q := by
  subst hr
  refine awV.step awUp_rf (Nat.le_refl _) (Nat.le_refl _) (fun p e R s m args below meth c0 H locs ad ls Z hC wf hR hlo hls _ _ _ _ kk => ?_) kk
  have hff := fK_row (by rw [hf]; decide)
  have hl := wf.pop.top
  have hat := (awR_at hR hff.1 hff.2 hb hl).2
  rw [awCell_O hf] at hat
  have k2 := kk H locs ad ls awAg_rf (wf.pop.pop.push (v := va_rf (sR S f i x.toNatClampNeg)) (by
    cases hr : sR S f i x.toNatClampNeg with
    | none => exact trivial
    | some r => exact awR_cl hR hff.2 hb hl hr)) hR hlo hls
  rw [List.map_cons, rnv_rf] at k2
  exact va_aldq hC.1 hC.2.1 hC.2.2.2.2.2.2.2.1.1 (va_P1 hat) 0 5 rfl rfl hin hd k2
theorem av_dald {f i : Nat} {x : Int32} {r : Option Nat} (hd : decode (awM_c M) pc = .ok (.aaload, 1)) (hf : fK f = 26) (hb : nb b f = true) (hin : vp_in x (sN S f i)) (hr : sR S f i x.toNatClampNeg = r) (kk : awV b E M (pc + 1) lv (va_rf r :: st) S kc ks Q) : awV b E M pc lv (.int x :: .ref (nm f i) :: st) S kc ks Q := by
  subst hr
  refine awV.step awUp_rf (Nat.le_refl _) (Nat.le_refl _) (fun p e R s m args below meth c0 H locs ad ls Z hC wf hR hlo hls _ _ _ _ kk => ?_) kk
  have hff := fK_row (by rw [hf]; decide)
  have hl := wf.pop.top
  have hat := (awR_at hR hff.1 hff.2 hb hl).2
  rw [awCell_D hf] at hat
  have k2 := kk H locs ad ls awAg_rf (wf.pop.pop.push (v := va_rf (sR S f i x.toNatClampNeg)) (by
    cases hr : sR S f i x.toNatClampNeg with
    | none => exact trivial
    | some r => exact awR_cl hR hff.2 hb hl hr)) hR hlo hls
  rw [List.map_cons, rnv_rf] at k2
  exact va_aldq hC.1 hC.2.1 hC.2.2.2.2.2.2.2.1.1 (va_P1 hat) 0 6 rfl rfl hin hd k2
theorem av_iast {f i : Nat} {x : Int32} {y : Int32} (hd : decode (awM_c M) pc = .ok (.iastore, 1)) (hf : fK f = 20) (hb : nb b f = true) (hin : vp_in x (sN S f i)) (kk : awV b E M (pc + 1) lv st (wI S f i x.toNatClampNeg y) kc ks Q) : awV b E M pc lv (.int y :: .int x :: .ref (nm f i) :: st) S kc ks Q := by
  refine awV.step (S1 := wI S f i x.toNatClampNeg y) (fun n h => h) (Nat.le_refl _) (Nat.le_refl _) (fun p e R s m args below meth c0 H locs ad ls Z hC wf hR hlo hls _ _ _ _ kk => ?_) kk
  have hff := fK_row (by rw [hf]; decide)
  have hl : lvN S (nm f i) := wf.pop.pop.top
  obtain ⟨hlo1, hat⟩ := awR_at hR hff.1 hff.2 hb hl
  rw [awCell_I hf] at hat
  refine W.iast hC.1 hC.2.1 hat ((hC.2.2.2.2.2.2.2.1.1.2 0 _ rfl).1 _ _) (fun q => by cases q) (by show ¬ (x < 0 ∨ (arrV _ _ _).slots.size ≤ _); rw [arrV_size]; exact hin) rfl rfl hd fun H1 e z oq => ?_
  refine kk H1 _ ad ls awAg_rf wf.pop.pop.pop (awR_wI hR hff.1 hff.2 hb hl ?_ z oq) (fun q hq => ?_) hls
  · rw [awCell_I hf]
    show H1[ad (nm f i)]? = some (vp_cell _ _)
    rw [e]
    rw [vp_cell_i, vp_cell_i, arrV_store]
    congr 2
    funext q
    show _ = Value.int (sI (wI S f i x.toNatClampNeg y) f i q)
    rw [sI_wI]
    by_cases hq : q = x.toNatClampNeg
    · subst hq
      rw [if_pos ⟨rfl, rfl, rfl⟩]
      unfold updV
      rw [if_pos rfl]
    · rw [if_neg (fun z => hq z.2.2)]
      unfold updV
      rw [if_neg hq]
  · rcases List.mem_append.mp hq with h | h
    · exact hlo q h
    · rw [List.mem_singleton.mp h]; exact hlo1
theorem av_last {f i : Nat} {x : Int32} {y : Int64} (hd : decode (awM_c M) pc = .ok (.lastore, 1)) (hf : fK f = 21) (hb : nb b f = true) (hin : vp_in x (sN S f i)) (kk : awV b E M (pc + 1) lv st (wL S f i x.toNatClampNeg y) kc ks Q) : awV b E M pc lv (.long y :: .int x :: .ref (nm f i) :: st) S kc ks Q := by
  refine awV.step (S1 := wL S f i x.toNatClampNeg y) (fun n h => h) (Nat.le_refl _) (Nat.le_refl _) (fun p e R s m args below meth c0 H locs ad ls Z hC wf hR hlo hls _ _ _ _ kk => ?_) kk
  have hff := fK_row (by rw [hf]; decide)
  have hl : lvN S (nm f i) := wf.pop.pop.top
  obtain ⟨hlo1, hat⟩ := awR_at hR hff.1 hff.2 hb hl
  rw [awCell_J hf] at hat
  refine W.last hC.1 hC.2.1 hat ((hC.2.2.2.2.2.2.2.1.1.2 1 _ rfl).1 _ _) (fun q => by cases q) (by show ¬ (x < 0 ∨ (arrV _ _ _).slots.size ≤ _); rw [arrV_size]; exact hin) rfl rfl hd fun H1 e z oq => ?_
  refine kk H1 _ ad ls awAg_rf wf.pop.pop.pop (awR_wL hR hff.1 hff.2 hb hl ?_ z oq) (fun q hq => ?_) hls
  · rw [awCell_J hf]
    show H1[ad (nm f i)]? = some (vp_cell _ _)
    rw [e]
    rw [vp_cell_l, vp_cell_l, arrV_store]
    congr 2
    funext q
    show _ = Value.long (sL (wL S f i x.toNatClampNeg y) f i q)
    rw [sL_wL]
    by_cases hq : q = x.toNatClampNeg
    · subst hq
      rw [if_pos ⟨rfl, rfl, rfl⟩]
      unfold updV
      rw [if_pos rfl]
    · rw [if_neg (fun z => hq z.2.2)]
      unfold updV
      rw [if_neg hq]
  · rcases List.mem_append.mp hq with h | h
    · exact hlo q h
    · rw [List.mem_singleton.mp h]; exact hlo1
theorem av_zast {f i : Nat} {x : Int32} {y : Int32} (hd : decode (awM_c M) pc = .ok (.bastore, 1)) (hf : fK f = 22) (hb : nb b f = true) (hin : vp_in x (sN S f i)) (hn : y &&& 1 = y) (kk : awV b E M (pc + 1) lv st (wI S f i x.toNatClampNeg y) kc ks Q) : awV b E M pc lv (.int y :: .int x :: .ref (nm f i) :: st) S kc ks Q := by
  refine awV.step (S1 := wI S f i x.toNatClampNeg y) (fun n h => h) (Nat.le_refl _) (Nat.le_refl _) (fun p e R s m args below meth c0 H locs ad ls Z hC wf hR hlo hls _ _ _ _ kk => ?_) kk
  have hff := fK_row (by rw [hf]; decide)
  have hl : lvN S (nm f i) := wf.pop.pop.top
  obtain ⟨hlo1, hat⟩ := awR_at hR hff.1 hff.2 hb hl
  rw [awCell_Z hf] at hat
  refine W.zast hC.1 hC.2.1 hat ((hC.2.2.2.2.2.2.2.1.1.2 2 _ rfl).1 _ _) (fun q => by cases q) (by show ¬ (x < 0 ∨ (arrV _ _ _).slots.size ≤ _); rw [arrV_size]; exact hin) rfl rfl hd fun H1 e z oq => ?_
  refine kk H1 _ ad ls awAg_rf wf.pop.pop.pop (awR_wI hR hff.1 hff.2 hb hl ?_ z oq) (fun q hq => ?_) hls
  · rw [awCell_Z hf]
    show H1[ad (nm f i)]? = some (vp_cell _ _)
    rw [e]
    rw [vp_cell_i, vp_cell_i, arrV_store]
    congr 2
    funext q
    show _ = Value.int (sI (wI S f i x.toNatClampNeg y) f i q)
    rw [sI_wI]
    by_cases hq : q = x.toNatClampNeg
    · subst hq
      rw [if_pos ⟨rfl, rfl, rfl⟩]
      unfold updV
      rw [if_pos rfl]
      show Value.int _ = Value.int y
      rw [hn]
    · rw [if_neg (fun z => hq z.2.2)]
      unfold updV
      rw [if_neg hq]
  · rcases List.mem_append.mp hq with h | h
    · exact hlo q h
    · rw [List.mem_singleton.mp h]; exact hlo1
theorem av_bast {f i : Nat} {x : Int32} {y : Int32} (hd : decode (awM_c M) pc = .ok (.bastore, 1)) (hf : fK f = 23) (hb : nb b f = true) (hin : vp_in x (sN S f i)) (hn : y.toInt8.toInt32 = y) (kk : awV b E M (pc + 1) lv st (wI S f i x.toNatClampNeg y) kc ks Q) : awV b E M pc lv (.int y :: .int x :: .ref (nm f i) :: st) S kc ks Q := by
  refine awV.step (S1 := wI S f i x.toNatClampNeg y) (fun n h => h) (Nat.le_refl _) (Nat.le_refl _) (fun p e R s m args below meth c0 H locs ad ls Z hC wf hR hlo hls _ _ _ _ kk => ?_) kk
  have hff := fK_row (by rw [hf]; decide)
  have hl : lvN S (nm f i) := wf.pop.pop.top
  obtain ⟨hlo1, hat⟩ := awR_at hR hff.1 hff.2 hb hl
  rw [awCell_B hf] at hat
  refine W.bast hC.1 hC.2.1 hat ((hC.2.2.2.2.2.2.2.1.1.2 3 _ rfl).1 _ _) (fun q => by cases q) (by show ¬ (x < 0 ∨ (arrV _ _ _).slots.size ≤ _); rw [arrV_size]; exact hin) rfl rfl hd fun H1 e z oq => ?_
  refine kk H1 _ ad ls awAg_rf wf.pop.pop.pop (awR_wI hR hff.1 hff.2 hb hl ?_ z oq) (fun q hq => ?_) hls
  · rw [awCell_B hf]
    show H1[ad (nm f i)]? = some (vp_cell _ _)
    rw [e]
    rw [vp_cell_i, vp_cell_i, arrV_store]
    congr 2
    funext q
    show _ = Value.int (sI (wI S f i x.toNatClampNeg y) f i q)
    rw [sI_wI]
    by_cases hq : q = x.toNatClampNeg
    · subst hq
      rw [if_pos ⟨rfl, rfl, rfl⟩]
      unfold updV
      rw [if_pos rfl]
      show Value.int _ = Value.int y
      rw [hn]
    · rw [if_neg (fun z => hq z.2.2)]
      unfold updV
      rw [if_neg hq]
  · rcases List.mem_append.mp hq with h | h
    · exact hlo q h
    · rw [List.mem_singleton.mp h]; exact hlo1
theorem av_alen {f i : Nat} (hd : decode (awM_c M) pc = .ok (.arraylength, 1)) (hf : 20 ≤ fK f ∧ fK f < 27) (hb : nb b f = true) (kk : awV b E M (pc + 1) lv (.int (nI (sN S f i)) :: st) S kc ks Q) : awV b E M pc lv (.ref (nm f i) :: st) S kc ks Q := by
  refine awV.step awUp_rf (Nat.le_refl _) (Nat.le_refl _) (fun p e R s m args below meth c0 H locs ad ls Z hC wf hR hlo hls _ _ _ _ kk => ?_) kk
  have hff := fK_row hf.2
  have hat := (awR_at hR hff.1 hff.2 hb wf.top).2
  have k2 := kk H locs ad ls awAg_rf (wf.pop.push (v := .int (nI (sN S f i))) trivial) hR hlo hls
  have hK := hC.2.2.2.2.2.2.2.1.1
  rcases (show fK f = 20 ∨ fK f = 21 ∨ fK f = 22 ∨ fK f = 23 ∨ fK f = 24 ∨ fK f = 25 ∨ fK f = 26 by omega) with h | h | h | h | h | h | h
  · rw [awCell_I h] at hat
    exact va_alen hC.1 hC.2.1 hK (va_P1 hat) 0 0 rfl rfl rfl hd k2
  · rw [awCell_J h] at hat
    exact va_alen hC.1 hC.2.1 hK (va_P1 hat) 0 1 rfl rfl rfl hd k2
  · rw [awCell_Z h] at hat
    exact va_alen hC.1 hC.2.1 hK (va_P1 hat) 0 2 rfl rfl rfl hd k2
  · rw [awCell_B h] at hat
    exact va_alen hC.1 hC.2.1 hK (va_P1 hat) 0 3 rfl rfl rfl hd k2
  · rw [awCell_A h] at hat
    exact va_alen hC.1 hC.2.1 hK (va_P1 hat) 0 4 rfl rfl rfl hd k2
  · rw [awCell_O h] at hat
    exact va_alen hC.1 hC.2.1 hK (va_P1 hat) 0 5 rfl rfl rfl hd k2
  · rw [awCell_D h] at hat
    exact va_alen hC.1 hC.2.1 hK (va_P1 hat) 0 6 rfl rfl rfl hd k2
end ROWS
section NEWS
variable {b : Bool} {E : awE} {M : awM} {pc : Nat} {lv lv' : List (Nat × Value)} {st : List Value} {S : awS} {kc ks : Nat} {Q : Option Value → awS → Nat → Nat → Prop}
theorem av_new {idx f c : Nat} (hd : decode (awM_c M) pc = .ok (.new idx, 3)) (hw : awCls (awM_y M).cls idx c) (hf : fK f = c) (hb : nb b f = true) (kk : awV b E M (pc + 3) lv (.ref (nm f (sC S f)) :: st) (wNew S f 0) (kc + 1) (ks + (oCl c).2.2) Q) : awV b E M pc lv st S kc ks Q := by
  obtain ⟨hc, w1, w2, w3⟩ := hw
  have hff := fK_obj (by rw [hf]; exact hc)
  refine awV.step (fun m hm => (lvN_new hff.2).mpr (Or.inl hm)) (Nat.le_add_right _ _) (Nat.le_add_right _ _) (fun p e R s m args below meth c0 H locs ad ls Z hC wf hR hlo hls _ _ hcc hss kk => ?_) kk
  have hKn := hC.2.2.2.2.2.2.2.1.1.1 c _ (oCl_at c hc)
  have hts := hC.2.2.2.2.2.2.1
  refine W.newcK hC.1 hC.2.1 hC.2.2.2.2.2.1 (hts _ w1) (hts _ w2) (hts _ w3) rfl hd hcc hss hKn.2.1 rfl fun H1 kC hkC e1 z1 o1 => ?_
  have hag : awAg S ad (adN ad (nm f (sC S f)) H.size) := awAg_new hff.2
  have up : ∀ v, lvV S v → lvV (wNew S f 0) v := fun v h => h.up (fun m hm => (lvN_new hff.2).mpr (Or.inl hm))
  have k2 := kk H1 locs (adN ad (nm f (sC S f)) H.size) ls hag ⟨fun q hq => up _ (wf.1 q hq), fun v hv => (List.mem_cons.mp hv).elim (fun e => by rw [e]; exact (lvN_new hff.2).mpr (Or.inr rfl)) (fun h => up _ (wf.2 v h))⟩ (awR_new hR hff.1 hff.2 hb z1 o1 ?_) hlo (by rw [lvm_ag hag wf.1]; exact hls)
  · rw [List.map_cons, st_ag hag wf.2] at k2
    have e0 : rnv (adN ad (nm f (sC S f)) H.size) (.ref (nm f (sC S f))) = .ref H.size := congrArg Value.ref (if_pos rfl)
    rw [e0] at k2
    exact k2
  · rw [awCell_obj hf hc]
    refine ⟨_, oCl_at c hc, (u_born (oTy c) hts (oWs c hc) hKn hkC e1 (oTy_ok c hc)).to fun j hj => ?_⟩
    rw [vpV_fs hj, oDef c hc j hj]
    unfold fv
    rw [sI_wN, sL_wN, sR_wN, if_pos ⟨rfl, rfl⟩, if_pos ⟨rfl, rfl⟩, if_pos ⟨rfl, rfl⟩]
    rfl
theorem av_newI {f n : Nat} {x : Int32} (hd : decode (awM_c M) pc = .ok (.newarray .int, 2)) (hw : Cond.arrayClass .int ∈ awBig) (hf : fK f = 20) (hb : nb b f = true) (hx : ¬ x < 0) (hn : x.toNatClampNeg = n) (hs : n * 8 ≤ 536870912) (kk : awV b E M (pc + 2) lv (.ref (nm f (sC S f)) :: st) (wNew S f n) (kc + 1) (ks + n) Q) : awV b E M pc lv (.int x :: st) S kc ks Q := by
  have hff := fK_row (f := f) (by rw [hf]; decide)
  refine awV.step (fun m hm => (lvN_new hff.2).mpr (Or.inl hm)) (Nat.le_add_right _ _) (Nat.le_add_right _ _) (fun p e R s m args below meth c0 H locs ad ls Z hC wf hR hlo hls _ _ hcc hss kk => ?_) kk
  refine va_newaK hC.1 hC.2.1 (atype := .int) (hC.2.2.2.2.2.2.1 _ hw) rfl hd rfl hx hn (Nat.le_trans (Nat.mul_le_mul_left _ (by decide)) hs) hcc hss rfl fun H1 cA e1 z1 o1 hAr hNm => ?_
  have hcA : cA = awE_A E 0 := Option.some.inj (hNm.symm.trans (hC.2.2.2.2.2.2.2.1.1.2 0 _ rfl).2)
  subst hcA
  have hag : awAg S ad (adN ad (nm f (sC S f)) H.size) := awAg_new hff.2
  have up : ∀ v, lvV S v → lvV (wNew S f n) v := fun v h => h.up (fun m hm => (lvN_new hff.2).mpr (Or.inl hm))
  have k2 := kk H1 locs (adN ad (nm f (sC S f)) H.size) ls hag ⟨fun q hq => up _ (wf.1 q hq), fun v hv => (List.mem_cons.mp hv).elim (fun e => by rw [e]; exact (lvN_new hff.2).mpr (Or.inr rfl)) (fun h => up _ (wf.pop.2 v h))⟩ (awR_new hR hff.1 hff.2 hb z1 o1 ?_) hlo (by rw [lvm_ag hag wf.1]; exact hls)
  · rw [List.map_cons, st_ag hag wf.pop.2] at k2
    have e0 : rnv (adN ad (nm f (sC S f)) H.size) (.ref (nm f (sC S f))) = .ref H.size := congrArg Value.ref (if_pos rfl)
    rw [e0] at k2
    exact k2
  · rw [awCell_I hf]
    show H1[H.size]? = some (vp_cell _ _)
    rw [e1, vp_cell_i, sN_wN, if_pos ⟨rfl, rfl⟩]
    congr 2
    funext j
    rw [sI_wN, if_pos ⟨rfl, rfl⟩]
    rfl
theorem av_newJ {f n : Nat} {x : Int32} (hd : decode (awM_c M) pc = .ok (.newarray .long, 2)) (hw : Cond.arrayClass .long ∈ awBig) (hf : fK f = 21) (hb : nb b f = true) (hx : ¬ x < 0) (hn : x.toNatClampNeg = n) (hs : n * 8 ≤ 536870912) (kk : awV b E M (pc + 2) lv (.ref (nm f (sC S f)) :: st) (wNew S f n) (kc + 1) (ks + n) Q) : awV b E M pc lv (.int x :: st) S kc ks Q := by
  have hff := fK_row (f := f) (by rw [hf]; decide)
  refine awV.step (fun m hm => (lvN_new hff.2).mpr (Or.inl hm)) (Nat.le_add_right _ _) (Nat.le_add_right _ _) (fun p e R s m args below meth c0 H locs ad ls Z hC wf hR hlo hls _ _ hcc hss kk => ?_) kk
  refine va_newaK hC.1 hC.2.1 (atype := .long) (hC.2.2.2.2.2.2.1 _ hw) rfl hd rfl hx hn (Nat.le_trans (Nat.mul_le_mul_left _ (by decide)) hs) hcc hss rfl fun H1 cA e1 z1 o1 hAr hNm => ?_
  have hcA : cA = awE_A E 1 := Option.some.inj (hNm.symm.trans (hC.2.2.2.2.2.2.2.1.1.2 1 _ rfl).2)
  subst hcA
  have hag : awAg S ad (adN ad (nm f (sC S f)) H.size) := awAg_new hff.2
  have up : ∀ v, lvV S v → lvV (wNew S f n) v := fun v h => h.up (fun m hm => (lvN_new hff.2).mpr (Or.inl hm))
  have k2 := kk H1 locs (adN ad (nm f (sC S f)) H.size) ls hag ⟨fun q hq => up _ (wf.1 q hq), fun v hv => (List.mem_cons.mp hv).elim (fun e => by rw [e]; exact (lvN_new hff.2).mpr (Or.inr rfl)) (fun h => up _ (wf.pop.2 v h))⟩ (awR_new hR hff.1 hff.2 hb z1 o1 ?_) hlo (by rw [lvm_ag hag wf.1]; exact hls)
  · rw [List.map_cons, st_ag hag wf.pop.2] at k2
    have e0 : rnv (adN ad (nm f (sC S f)) H.size) (.ref (nm f (sC S f))) = .ref H.size := congrArg Value.ref (if_pos rfl)
    rw [e0] at k2
    exact k2
  · rw [awCell_J hf]
    show H1[H.size]? = some (vp_cell _ _)
    rw [e1, vp_cell_l, sN_wN, if_pos ⟨rfl, rfl⟩]
    congr 2
    funext j
    rw [sL_wN, if_pos ⟨rfl, rfl⟩]
    rfl
theorem av_newZ {f n : Nat} {x : Int32} (hd : decode (awM_c M) pc = .ok (.newarray .boolean, 2)) (hw : Cond.arrayClass .boolean ∈ awBig) (hf : fK f = 22) (hb : nb b f = true) (hx : ¬ x < 0) (hn : x.toNatClampNeg = n) (hs : n * 8 ≤ 536870912) (kk : awV b E M (pc + 2) lv (.ref (nm f (sC S f)) :: st) (wNew S f n) (kc + 1) (ks + n) Q) : awV b E M pc lv (.int x :: st) S kc ks Q := by
  have hff := fK_row (f := f) (by rw [hf]; decide)
  refine awV.step (fun m hm => (lvN_new hff.2).mpr (Or.inl hm)) (Nat.le_add_right _ _) (Nat.le_add_right _ _) (fun p e R s m args below meth c0 H locs ad ls Z hC wf hR hlo hls _ _ hcc hss kk => ?_) kk
  refine va_newaK hC.1 hC.2.1 (atype := .boolean) (hC.2.2.2.2.2.2.1 _ hw) rfl hd rfl hx hn (Nat.le_trans (Nat.mul_le_mul_left _ (by decide)) hs) hcc hss rfl fun H1 cA e1 z1 o1 hAr hNm => ?_
  have hcA : cA = awE_A E 2 := Option.some.inj (hNm.symm.trans (hC.2.2.2.2.2.2.2.1.1.2 2 _ rfl).2)
  subst hcA
  have hag : awAg S ad (adN ad (nm f (sC S f)) H.size) := awAg_new hff.2
  have up : ∀ v, lvV S v → lvV (wNew S f n) v := fun v h => h.up (fun m hm => (lvN_new hff.2).mpr (Or.inl hm))
  have k2 := kk H1 locs (adN ad (nm f (sC S f)) H.size) ls hag ⟨fun q hq => up _ (wf.1 q hq), fun v hv => (List.mem_cons.mp hv).elim (fun e => by rw [e]; exact (lvN_new hff.2).mpr (Or.inr rfl)) (fun h => up _ (wf.pop.2 v h))⟩ (awR_new hR hff.1 hff.2 hb z1 o1 ?_) hlo (by rw [lvm_ag hag wf.1]; exact hls)
  · rw [List.map_cons, st_ag hag wf.pop.2] at k2
    have e0 : rnv (adN ad (nm f (sC S f)) H.size) (.ref (nm f (sC S f))) = .ref H.size := congrArg Value.ref (if_pos rfl)
    rw [e0] at k2
    exact k2
  · rw [awCell_Z hf]
    show H1[H.size]? = some (vp_cell _ _)
    rw [e1, vp_cell_i, sN_wN, if_pos ⟨rfl, rfl⟩]
    congr 2
    funext j
    rw [sI_wN, if_pos ⟨rfl, rfl⟩]
    rfl
theorem av_newB {f n : Nat} {x : Int32} (hd : decode (awM_c M) pc = .ok (.newarray .byte, 2)) (hw : Cond.arrayClass .byte ∈ awBig) (hf : fK f = 23) (hb : nb b f = true) (hx : ¬ x < 0) (hn : x.toNatClampNeg = n) (hs : n * 8 ≤ 536870912) (kk : awV b E M (pc + 2) lv (.ref (nm f (sC S f)) :: st) (wNew S f n) (kc + 1) (ks + n) Q) : awV b E M pc lv (.int x :: st) S kc ks Q := by
  have hff := fK_row (f := f) (by rw [hf]; decide)
  refine awV.step (fun m hm => (lvN_new hff.2).mpr (Or.inl hm)) (Nat.le_add_right _ _) (Nat.le_add_right _ _) (fun p e R s m args below meth c0 H locs ad ls Z hC wf hR hlo hls _ _ hcc hss kk => ?_) kk
  refine va_newaK hC.1 hC.2.1 (atype := .byte) (hC.2.2.2.2.2.2.1 _ hw) rfl hd rfl hx hn (Nat.le_trans (Nat.mul_le_mul_left _ (by decide)) hs) hcc hss rfl fun H1 cA e1 z1 o1 hAr hNm => ?_
  have hcA : cA = awE_A E 3 := Option.some.inj (hNm.symm.trans (hC.2.2.2.2.2.2.2.1.1.2 3 _ rfl).2)
  subst hcA
  have hag : awAg S ad (adN ad (nm f (sC S f)) H.size) := awAg_new hff.2
  have up : ∀ v, lvV S v → lvV (wNew S f n) v := fun v h => h.up (fun m hm => (lvN_new hff.2).mpr (Or.inl hm))
  have k2 := kk H1 locs (adN ad (nm f (sC S f)) H.size) ls hag ⟨fun q hq => up _ (wf.1 q hq), fun v hv => (List.mem_cons.mp hv).elim (fun e => by rw [e]; exact (lvN_new hff.2).mpr (Or.inr rfl)) (fun h => up _ (wf.pop.2 v h))⟩ (awR_new hR hff.1 hff.2 hb z1 o1 ?_) hlo (by rw [lvm_ag hag wf.1]; exact hls)
  · rw [List.map_cons, st_ag hag wf.pop.2] at k2
    have e0 : rnv (adN ad (nm f (sC S f)) H.size) (.ref (nm f (sC S f))) = .ref H.size := congrArg Value.ref (if_pos rfl)
    rw [e0] at k2
    exact k2
  · rw [awCell_B hf]
    show H1[H.size]? = some (vp_cell _ _)
    rw [e1, vp_cell_i, sN_wN, if_pos ⟨rfl, rfl⟩]
    congr 2
    funext j
    rw [sI_wN, if_pos ⟨rfl, rfl⟩]
    rfl
end NEWS

