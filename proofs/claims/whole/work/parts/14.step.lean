-- the general step; fields
theorem awX.step {b : Bool} {E : awE} {M : awM} {pc pc' : Nat} {lv lv' : List (Nat × Value)} {st st' : List Value} {S S1 : awS} {kc ks kc' ks' : Nat} {Q : Option Value → awS → Nat → Nat → Prop} (hup : awUp S S1) (h1 : kc ≤ kc') (h2 : ks ≤ ks')
    (go : ∀ (p : Program) (e : Env) (R : Room) (s : State) (m : MethodId) (args : Array Value) (below : List Frame) (meth : Method) (c : Code) (H : Heap) (locs : List Loc) (ad : Nat → Nat) (ls : Array Slot) (Z : State → Prop), awC E M p s m args meth c → awWf S lv st → awR b E S ad H → (∀ q ∈ locs, awE_lo E ≤ q.base) → lv_has ls (awM_n M) (lvm ad lv) →
      awM_f M ≤ R.frames → awM_l M ≤ R.locals → kc' ≤ R.cells → ks' ≤ R.slots →
      (∀ (H' : Heap) (locs' : List Loc) (ad' : Nat → Nat) (ls' : Array Slot), awAg S ad ad' → awWf S1 lv' st' → awR b E S1 ad' H' → (∀ q ∈ locs', awE_lo E ≤ q.base) → lv_has ls' (awM_n M) (lvm ad' lv') → W p (awE_l E) e R s m args below meth c H' locs' kc' ks' Z (F0 m pc' ls' (st'.map (rnv ad')))) →
      W p (awE_l E) e R s m args below meth c H locs kc ks Z (F0 m pc ls (st.map (rnv ad))))
    (k : awX b E M pc' lv' st' S1 kc' ks' Q) : awX b E M pc lv st S kc ks Q := by
  obtain ⟨r, S', mc, ms, hQ, e1, e2, hu, hk⟩ := k
  refine ⟨r, S', mc, ms, hQ, Nat.le_trans h1 e1, Nat.le_trans h2 e2, hup.tr hu, fun p e R s m args below meth c hC hf hl hcc hss Qc H locs ad ls wf hR hlo hls hq => ?_⟩
  exact go p e R s m args below meth c H locs ad ls _ hC wf hR hlo hls hf hl (Nat.le_trans e1 hcc) (Nat.le_trans e2 hss) (fun H' locs' ad' ls' hag wf' hR' hlo' hls' =>
    hk p e R s m args below meth c hC hf hl hcc hss Qc H' locs' ad' ls' wf' hR' hlo' hls' (fun ad'' t g1 g2 g3 => hq ad'' t (fun n hn => (g1 n (hup n hn)).trans (hag n hn)) g2 g3))
theorem fK_row {f : Nat} (h : fK f < 27) : (f < 125 ∨ 127 < f) ∧ f < 256 := by
  unfold fK at h
  by_cases h1 : f < 57
  · omega
  · rw [if_neg h1] at h
    by_cases h0 : f = 125
    · rw [if_pos h0] at h; omega
    · rw [if_neg h0] at h
      by_cases h2 : f = 126
      · rw [if_pos h2] at h; omega
      · rw [if_neg h2] at h
        by_cases h3 : f = 127
        · rw [if_pos h3] at h; omega
        · rw [if_neg h3] at h
          by_cases h4 : 128 ≤ f ∧ f < 212
          · omega
          · rw [if_neg h4] at h; omega
theorem fK_obj {f : Nat} (h : fK f < 14) : (f < 125 ∨ 127 < f) ∧ f < 256 := fK_row (Nat.lt_trans h (by decide))
theorem awCell_obj {DA : Nat → ClassId} {ad : Nat → Nat} {S : awS} {f i c : Nat} (hf : fK f = c) (hc : c < 14) : awCell DA ad S f i = .inr (c, fs ad S f i c) := by
  subst hf
  unfold awCell
  rw [if_pos hc]
theorem va_P1 {D : va_G} {cl : List vw_C} {q : Nat × va_E} {H : Heap} (h : va_at D cl q H) : va_P D cl [q] H := fun k x hk => by
  have hl : k < 1 := (List.getElem?_eq_some_iff.mp hk).1
  have : k = 0 := by omega
  subst this
  cases hk
  exact h
theorem fs_get {ad : Nat → Nat} {S : awS} {f i c k : Nat} (h : k < (oCl c).2.2) : (fs ad S f i c)[k]? = some (fv ad S f i c k) := by
  unfold fs
  simp [h]
section HEAP
variable {b : Bool} {E : awE} {M : awM} {pc : Nat} {lv lv' : List (Nat × Value)} {st : List Value} {S : awS} {kc ks : Nat} {Q : Option Value → awS → Nat → Nat → Prop}
theorem ax_get {idx f i c k : Nat} {v : Value} (hd : decode (awM_c M) pc = .ok (.getfield idx, 3)) (hw : awFld (awM_y M).cls idx c k) (hf : fK f = c) (hb : nb b f = true) (hv : ∀ ad, rnv ad v = fv ad S f i c k) (hlv : ∀ n, v = .ref n → sR S f i k = some n) (kk : awX b E M (pc + 3) lv (v :: st) S kc ks Q) : awX b E M pc lv (.ref (nm f i) :: st) S kc ks Q := by
  obtain ⟨hc, hk, hw⟩ := hw
  refine awX.step awUp_rf (Nat.le_refl _) (Nat.le_refl _) (fun p e R s m args below meth c0 H locs ad ls Z hC wf hR hlo hls _ _ _ _ kk => ?_) kk
  have hff := fK_obj (by rw [hf]; exact hc)
  have hl : lvN S (nm f i) := wf.top
  have hat := (awR_at hR hff.1 hff.2 hb hl).2
  rw [awCell_obj hf hc] at hat
  have wf' : awWf S lv (v :: st) := wf.pop.push (by
    cases v with
    | ref n => exact awR_cl hR hff.2 hb hl (hlv n rfl)
    | _ => exact trivial)
  have k2 := kk H locs ad ls awAg_rf wf' hR hlo hls
  rw [List.map_cons, hv ad] at k2
  exact va_get (D := awE_D E) (cl := vwCl) hC.1 hC.2.1 hC.2.2.2.2.2.2.1 (oWs c hc) hC.2.2.2.2.2.1 hC.2.2.2.2.2.2.2.1.1 (va_P1 hat) 0 rfl (oCl_at c hc) k hk (hC.2.2.2.2.2.2.1 _ hw) (fun _ h => h) (fs_get hk) hd k2
theorem ax_getI {idx f i c k : Nat} (hd : decode (awM_c M) pc = .ok (.getfield idx, 3)) (hw : awFld (awM_y M).cls idx c k) (hf : fK f = c) (hb : nb b f = true) (ht : tyK (oTy c k) = 0) (kk : awX b E M (pc + 3) lv (.int (sI S f i k) :: st) S kc ks Q) : awX b E M pc lv (.ref (nm f i) :: st) S kc ks Q :=
  ax_get hd hw hf hb (fun ad => by unfold fv; rw [ht]; rfl) (fun n h => by cases h) kk
theorem ax_getL {idx f i c k : Nat} (hd : decode (awM_c M) pc = .ok (.getfield idx, 3)) (hw : awFld (awM_y M).cls idx c k) (hf : fK f = c) (hb : nb b f = true) (ht : tyK (oTy c k) = 1) (kk : awX b E M (pc + 3) lv (.long (sL S f i k) :: st) S kc ks Q) : awX b E M pc lv (.ref (nm f i) :: st) S kc ks Q :=
  ax_get hd hw hf hb (fun ad => by unfold fv; rw [ht]; rfl) (fun n h => by cases h) kk
theorem ax_getQ {idx f i c k : Nat} {r : Option Nat} (hd : decode (awM_c M) pc = .ok (.getfield idx, 3)) (hw : awFld (awM_y M).cls idx c k) (hf : fK f = c) (hb : nb b f = true) (ht : tyK (oTy c k) = 2) (hr : sR S f i k = r) (kk : awX b E M (pc + 3) lv (va_rf r :: st) S kc ks Q) : awX b E M pc lv (.ref (nm f i) :: st) S kc ks Q :=
  ax_get hd hw hf hb (fun ad => by unfold fv; rw [ht, rnv_rf, hr]; rfl) (fun n h => by cases r with
    | none => cases h
    | some x => cases h; exact hr) kk
theorem ax_getR {idx f i c k n : Nat} (hd : decode (awM_c M) pc = .ok (.getfield idx, 3)) (hw : awFld (awM_y M).cls idx c k) (hf : fK f = c) (hb : nb b f = true) (ht : tyK (oTy c k) = 2) (hr : sR S f i k = some n) (kk : awX b E M (pc + 3) lv (.ref n :: st) S kc ks Q) : awX b E M pc lv (.ref (nm f i) :: st) S kc ks Q :=
  ax_getQ (r := some n) hd hw hf hb ht hr kk
/-- a field is written -/
theorem ax_put {idx f i c k : Nat} {v : Value} {S1 : awS} (hd : decode (awM_c M) pc = .ok (.putfield idx, 3)) (hw : awFld (awM_y M).cls idx c k) (hf : fK f = c) (hfin : ((oCl c).2.1 k).2.2.2 = false ∨ (((oCl c).2.1 k).2.2.2 = true ∧ awM_i M = true ∧ ((oCl c).2.1 k).1 = (awM_y M).cls))
    (hn : ∀ ad, narrow (oTy c k) (rnv ad v) = rnv ad v) (hfit : ∀ ad, fits (oTy c k) (rnv ad v) = true) (hC1 : ∀ f, sC S1 f = sC S f)
    (hset : ∀ (ad : Nat → Nat) (H H1 : Heap), lvV S v → awR b E S ad H → lvN S (nm f i) → va_at (awE_D E) vwCl (ad (nm f i), awCell (awE_A E) ad S1 f i) H1 → H1.size = H.size → (∀ q, q ≠ ad (nm f i) → H1[q]? = H[q]?) → awR b E S1 ad H1)
    (hb : nb b f = true) (hcell : ∀ ad j, j < (oCl c).2.2 → fv ad S1 f i c j = if j = k then rnv ad v else fv ad S f i c j) (kk : awX b E M (pc + 3) lv st S1 kc ks Q) : awX b E M pc lv (v :: .ref (nm f i) :: st) S kc ks Q := by
  obtain ⟨hc, hk, hw⟩ := hw
  have hlvN : ∀ n, lvN S1 n ↔ lvN S n := fun n => by unfold lvN; rw [hC1]
  have hlvV : ∀ v, lvV S v → lvV S1 v := fun v h => by cases v <;> first | exact (hlvN _).mpr h | exact h
  refine awX.step (fun n h => (hlvN n).mpr h) (Nat.le_refl _) (Nat.le_refl _) (fun p e R s m args below meth c0 H locs ad ls Z hC wf hR hlo hls _ _ _ _ kk => ?_) kk
  have hff := fK_obj (by rw [hf]; exact hc)
  have hl : lvN S (nm f i) := wf.pop.top
  obtain ⟨hlo1, hat⟩ := awR_at hR hff.1 hff.2 hb hl
  rw [awCell_obj hf hc] at hat
  have wf' : awWf S1 lv st := ⟨fun q hq => hlvV _ (wf.1 q hq), fun q hq => hlvV _ (wf.pop.pop.2 q hq)⟩
  have hK := hC.2.2.2.2.2.2.2.1.1
  have hts := hC.2.2.2.2.2.2.1
  have hin := oWs c hc
  have hap := va_apart (own := (awM_y M).cls) hts hin (oTy c) (oTy_ok c hc) (oNm c hc) hK (oCl_at c hc)
  obtain ⟨r, h1, cell, q1, q2, q3, q4⟩ := hat
  have hr : r = ((oCl c).1, (oCl c).2.1, (oCl c).2.2) := Option.some.inj (h1.symm.trans (oCl_at c hc))
  subst hr
  obtain ⟨hS, hfc, kC, hkC, hkind⟩ := hK.1 c _ (oCl_at c hc)
  obtain ⟨cf, kf, fi, fd, hi, hsl⟩ := hS k hk
  have hlay := hts _ (hin _ (u_in_lay hk))
  have hst := (u_facts hfc hkC (u_lays hts hin hk) hi).1
  have fin : ∀ H' : Heap, H'[ad (nm f i)]? = some (cell.setSlot fd.slot (rnv ad v)) → H'.size = H.size → (∀ q, q ≠ ad (nm f i) → H'[q]? = H[q]?) → W p (awE_l E) e R s m args below meth c0 H' (locs ++ [⟨ad (nm f i), fd.slot⟩]) kc ks Z (F0 m (pc + 3) ls (st.map (rnv ad))) := by
    intro H' e1 e2 e3
    rw [hsl] at e1
    refine kk H' _ ad ls awAg_rf wf' (hset ad H H' wf.top hR hl ?_ e2 e3) (fun q hq => ?_) hls
    · rw [awCell_obj hf hc]
      refine ⟨_, oCl_at c hc, t_OB.to (V := updV (vp_V (fs ad S f i c)) k (rnv ad v)) ⟨_, e1, q2, q3, t_set q4 hap hk (rnv ad v)⟩ (fun j hj => ?_)⟩
      rw [vpV_fs hj, hcell ad j hj]
      unfold updV
      rw [vpV_fs hj]
    · rcases List.mem_append.mp hq with h | h
      · exact hlo q h
      · rw [List.mem_singleton.mp h]; exact hlo1
  rcases hfin with hfin | ⟨hfin, hin2, hdecl⟩
  · unfold u_lay at hlay
    rw [if_neg (by rw [hfin]; decide)] at hlay
    have h6 := u_store hfc hkC hkind hlay hi (oTy_ok c hc k hk) (hn ad) (hfit ad)
    exact W.putK hC.1 hC.2.1 (f := fd) ⟨hC.2.2.2.2.2.1, hts _ hw, ⟨_, _, _, hi⟩, hst⟩ (by rw [q2]; exact h6) q1 q3 (by rw [hsl]; exact k2_hasslot (q4 k hk)) rfl rfl hd fin
  · unfold u_lay at hlay
    rw [if_pos hfin] at hlay
    have hcf : m.cls = cf := by
      obtain ⟨_, _, c', _, _, _, -, -, hf', -, -, -, hown2, -⟩ := Cond.laysFinal_spec hlay
      have e1 : c' = cf := by have := hi.symm.trans hf'; simp at this; exact this.1.symm
      rw [hdecl] at hown2
      rw [← e1]; exact Option.some.inj (hC.2.2.2.2.2.1.symm.trans hown2)
    have h6 := u_fits hfc hkC hkind (Or.inr hlay) hi (oTy_ok c hc k hk) (hn ad) (hfit ad)
    exact W.putFinK hC.1 hC.2.1 hC.2.2.2.2.2.1 (hts _ hw) hi hst hcf (hC.2.2.2.2.2.2.2.2.1 hin2) (by rw [q2]; exact h6) q1 q3 (by rw [hsl]; exact k2_hasslot (q4 k hk)) rfl rfl hd fin
theorem ax_putI {idx f i c k : Nat} {x : Int32} (hd : decode (awM_c M) pc = .ok (.putfield idx, 3)) (hw : awFld (awM_y M).cls idx c k) (hf : fK f = c) (hb : nb b f = true) (ht : tyK (oTy c k) = 0) (hfin : ((oCl c).2.1 k).2.2.2 = false ∨ (((oCl c).2.1 k).2.2.2 = true ∧ awM_i M = true ∧ ((oCl c).2.1 k).1 = (awM_y M).cls))
    (hn : narrow (oTy c k) (.int x) = .int x) (hfit : fits (oTy c k) (.int x) = true) (kk : awX b E M (pc + 3) lv st (wI S f i k x) kc ks Q) : awX b E M pc lv (.int x :: .ref (nm f i) :: st) S kc ks Q := by
  have hff := fK_obj (by rw [hf]; exact hw.1)
  refine ax_put (S1 := wI S f i k x) hd hw hf hfin (fun _ => hn) (fun _ => hfit) (fun _ => rfl) (fun ad H H1 hv hR hl he hz ho => awR_wI hR hff.1 hff.2 hb hl he hz ho) hb (fun ad j hj => ?_) kk
  unfold fv
  by_cases e : j = k
  · subst e
    rw [if_pos rfl, ht]
    show Value.int (sI (wI S f i j x) f i j) = _
    rw [sI_wI, if_pos ⟨rfl, rfl, rfl⟩]; rfl
  · rw [if_neg e, sI_wI, if_neg (fun z => e z.2.2)]; rfl
theorem ax_putL {idx f i c k : Nat} {x : Int64} (hd : decode (awM_c M) pc = .ok (.putfield idx, 3)) (hw : awFld (awM_y M).cls idx c k) (hf : fK f = c) (hb : nb b f = true) (ht : tyK (oTy c k) = 1) (hfin : ((oCl c).2.1 k).2.2.2 = false ∨ (((oCl c).2.1 k).2.2.2 = true ∧ awM_i M = true ∧ ((oCl c).2.1 k).1 = (awM_y M).cls))
    (hn : narrow (oTy c k) (.long x) = .long x) (hfit : fits (oTy c k) (.long x) = true) (kk : awX b E M (pc + 3) lv st (wL S f i k x) kc ks Q) : awX b E M pc lv (.long x :: .ref (nm f i) :: st) S kc ks Q := by
  have hff := fK_obj (by rw [hf]; exact hw.1)
  refine ax_put (S1 := wL S f i k x) hd hw hf hfin (fun _ => hn) (fun _ => hfit) (fun _ => rfl) (fun ad H H1 hv hR hl he hz ho => awR_wL hR hff.1 hff.2 hb hl he hz ho) hb (fun ad j hj => ?_) kk
  unfold fv
  by_cases e : j = k
  · subst e
    rw [if_pos rfl, ht]
    show Value.long (sL (wL S f i j x) f i j) = _
    rw [sL_wL, if_pos ⟨rfl, rfl, rfl⟩]; rfl
  · rw [if_neg e, sL_wL, if_neg (fun z => e z.2.2)]; rfl
theorem ax_putQ {idx f i c k : Nat} {r : Option Nat} (hd : decode (awM_c M) pc = .ok (.putfield idx, 3)) (hw : awFld (awM_y M).cls idx c k) (hf : fK f = c) (hb : nb b f = true) (ht : tyK (oTy c k) = 2) (hfin : ((oCl c).2.1 k).2.2.2 = false ∨ (((oCl c).2.1 k).2.2.2 = true ∧ awM_i M = true ∧ ((oCl c).2.1 k).1 = (awM_y M).cls))
    (kk : awX b E M (pc + 3) lv st (wR S f i k r) kc ks Q) : awX b E M pc lv (va_rf r :: .ref (nm f i) :: st) S kc ks Q := by
  have hff := fK_obj (by rw [hf]; exact hw.1)
  have hn : ∀ o : Option Nat, narrow (oTy c k) (va_rf o) = va_rf o := fun o => by cases hq : oTy c k <;> rw [hq] at ht <;> first | (cases ht; done) | (cases o <;> rfl)
  have hfit : ∀ o : Option Nat, fits (oTy c k) (va_rf o) = true := fun o => by cases hq : oTy c k <;> rw [hq] at ht <;> first | (cases ht; done) | (cases o <;> rfl)
  refine ax_put (S1 := wR S f i k r) hd hw hf hfin (fun ad => by rw [rnv_rf]; exact hn _) (fun ad => by rw [rnv_rf]; exact hfit _) (fun _ => rfl) (fun ad H H1 hv hR hl he hz ho => awR_wR hR hff.1 hff.2 hb hl (fun n e => by subst e; exact hv) he hz ho) hb (fun ad j hj => ?_) kk
  unfold fv
  by_cases e : j = k
  · subst e
    rw [if_pos rfl, ht, rnv_rf]
    show va_rf ((sR (wR S f i j r) f i j).map ad) = _
    rw [sR_wR, if_pos ⟨rfl, rfl, rfl⟩]
  · rw [if_neg e, sR_wR, if_neg (fun z => e z.2.2)]; rfl
theorem ax_putR {idx f i c k n : Nat} (hd : decode (awM_c M) pc = .ok (.putfield idx, 3)) (hw : awFld (awM_y M).cls idx c k) (hf : fK f = c) (hb : nb b f = true) (ht : tyK (oTy c k) = 2) (hfin : ((oCl c).2.1 k).2.2.2 = false ∨ (((oCl c).2.1 k).2.2.2 = true ∧ awM_i M = true ∧ ((oCl c).2.1 k).1 = (awM_y M).cls))
    (kk : awX b E M (pc + 3) lv st (wR S f i k (some n)) kc ks Q) : awX b E M pc lv (.ref n :: .ref (nm f i) :: st) S kc ks Q := ax_putQ (r := some n) hd hw hf hb ht hfin kk
theorem ax_putN {idx f i c k : Nat} (hd : decode (awM_c M) pc = .ok (.putfield idx, 3)) (hw : awFld (awM_y M).cls idx c k) (hf : fK f = c) (hb : nb b f = true) (ht : tyK (oTy c k) = 2) (hfin : ((oCl c).2.1 k).2.2.2 = false ∨ (((oCl c).2.1 k).2.2.2 = true ∧ awM_i M = true ∧ ((oCl c).2.1 k).1 = (awM_y M).cls))
    (kk : awX b E M (pc + 3) lv st (wR S f i k none) kc ks Q) : awX b E M pc lv (.null :: .ref (nm f i) :: st) S kc ks Q := ax_putQ (r := none) hd hw hf hb ht hfin kk
end HEAP
