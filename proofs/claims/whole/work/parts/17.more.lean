-- whole rows written at once; casts, rows of references, the script, the empty row, class objects
def wLf (S : awS) (f i : Nat) (g : Nat → Int64) : awS := (S.1, fun f' i' k' => if f' = f ∧ i' = i then g k' else S.2.1 f' i' k', S.2.2)
def wRf (S : awS) (f i : Nat) (g : Nat → Option Nat) : awS := (S.1, S.2.1, fun f' i' k' => if f' = f ∧ i' = i then g k' else S.2.2.1 f' i' k', S.2.2.2)
theorem sL_wLf (S : awS) (f i : Nat) (g : Nat → Int64) (f' i' k' : Nat) : sL (wLf S f i g) f' i' k' = if f' = f ∧ i' = i then g k' else sL S f' i' k' := rfl
theorem sR_wRf (S : awS) (f i : Nat) (g : Nat → Option Nat) (f' i' k' : Nat) : sR (wRf S f i g) f' i' k' = if f' = f ∧ i' = i then g k' else sR S f' i' k' := rfl
theorem sI_wLf (S : awS) (f i : Nat) (g : Nat → Int64) (f' i' k' : Nat) : sI (wLf S f i g) f' i' k' = sI S f' i' k' := rfl
theorem sR_wLf (S : awS) (f i : Nat) (g : Nat → Int64) (f' i' k' : Nat) : sR (wLf S f i g) f' i' k' = sR S f' i' k' := rfl
theorem sN_wLf (S : awS) (f i : Nat) (g : Nat → Int64) (f' i' : Nat) : sN (wLf S f i g) f' i' = sN S f' i' := rfl
theorem sC_wLf (S : awS) (f i : Nat) (g : Nat → Int64) (f' : Nat) : sC (wLf S f i g) f' = sC S f' := rfl
theorem sK_wLf (S : awS) (f i : Nat) (g : Nat → Int64) (q' : Nat) : sK (wLf S f i g) q' = sK S q' := rfl
theorem awHid_wLf {S S0 : awS} (h : awHid S S0) {f : Nat} (i : Nat) (g : Nat → Int64) : awHid (wLf S f i g) (wLf S0 f i g) := by
  obtain ⟨h1, h2, h3, h4, h5⟩ := h
  refine ⟨fun q hg => ?_, h2, h3, h4, h5⟩
  obtain ⟨a, b, c, d⟩ := h1 q hg
  refine ⟨a, fun i' k' => ?_, c, d⟩
  rw [sL_wLf, sL_wLf, b]
theorem awR_wLf {b : Bool} {E : awE} {S : awS} {ad : Nat → Nat} {H H1 : Heap} {f i : Nat} {g : Nat → Int64} (h : awR b E S ad H) (hf : f < 125 ∨ 127 < f) (hf2 : f < 256) (hb : nb b f = true) (hl : lvN S (nm f i))
    (he : va_at (awE_D E) vwCl (ad (nm f i), awCell (awE_A E) ad (wLf S f i g) f i) H1) (hz : H1.size = H.size) (ho : ∀ q, q ≠ ad (nm f i) → H1[q]? = H[q]?) : awR b E (wLf S f i g) ad H1 := by
  have hs : ∀ S : awS, ∀ f' i', ¬ (f' = f ∧ i' = i) → awSame S (wLf S f i g) f' i' := fun S f' i' hn => ⟨fun _ => rfl, fun k' => by rw [sL_wLf, if_neg hn], fun _ => rfl, rfl⟩
  cases b with
  | false => exact awR0_set h hf hf2 hl (hs S) (fun _ => rfl) (fun k' r hr => h.2.2.2.2.1 f i k' r ((lvN_nm hf2).mp hl) hr) he hz ho
  | true =>
    obtain ⟨S0, hh, h0⟩ := h
    have h2 := awHid_wLf hh (f := f) i g
    refine ⟨wLf S0 f i g, h2, awR0_set h0 hf hf2 (hh.lv hl) (hs S0) (fun _ => rfl) (fun k' r hr => h0.2.2.2.2.1 f i k' r ((lvN_nm hf2).mp (hh.lv hl)) hr) ?_ hz ho⟩
    rw [awCell_same (h2.same hb i)]
    exact he
theorem awR0_wRf {E : awE} {S : awS} {ad : Nat → Nat} {H H1 : Heap} {f i : Nat} {g : Nat → Option Nat} (h : awR0 E S ad H) (hf : f < 125 ∨ 127 < f) (hf2 : f < 256) (hl : lvN S (nm f i)) (hg : ∀ k r, g k = some r → lvN S r)
    (he : va_at (awE_D E) vwCl (ad (nm f i), awCell (awE_A E) ad (wRf S f i g) f i) H1) (hz : H1.size = H.size) (ho : ∀ q, q ≠ ad (nm f i) → H1[q]? = H[q]?) : awR0 E (wRf S f i g) ad H1 :=
  awR0_set h hf hf2 hl (fun f' i' hn => ⟨fun _ => rfl, fun _ => rfl, fun k' => by rw [sR_wRf, if_neg hn], rfl⟩) (fun _ => rfl) (fun k' r hr => by rw [sR_wRf, if_pos ⟨rfl, rfl⟩] at hr; exact hg k' r hr) he hz ho
theorem awVs {E : awE} {M : awM} {p : Program} {s : State} {m : MethodId} {args : Array Value} {meth : Method} {c : Code} (hC : awC E M p s m args meth c) {H : Heap} {locs : List Loc} (h1 : ∀ q, q < awE_lo E → H[q]? = (awE_H E)[q]?) (h2 : s.heap.size ≤ H.size) (hlo : ∀ q ∈ locs, awE_lo E ≤ q.base) : va_S (awLo E) s.heap H locs :=
  ⟨h2, fun q _ h => by
    have hq : q < awE_lo E := Nat.lt_of_not_le h
    rw [h1 q hq, hC.2.2.2.2.2.2.2.2.2.1 q hq], hlo⟩
theorem awR_low {b : Bool} {E : awE} {S : awS} {ad : Nat → Nat} {H : Heap} (h : awR b E S ad H) : (∀ q, q < awE_lo E → H[q]? = (awE_H E)[q]?) ∧ awE_lo E ≤ H.size ∧ ad nmE = awE_e E ∧ ad nmS = awE_b E ∧ ad nmC = awE_c E ∧ awE_e E < awE_lo E ∧ awE_b E < awE_lo E ∧ lvN S nmE ∧ lvN S nmS ∧ lvN S nmC := by
  cases b with
  | false =>
    obtain ⟨h1, h2, h3, h4, h5, h6, h7, h8⟩ := h
    exact ⟨h1, h2, h6.1, h7.1, h8.1, h6.2.1, h7.2.1, by rw [nmE, lvN_nm (by decide), h6.2.2]; decide, by rw [nmS, lvN_nm (by decide), h7.2.2]; decide, by rw [nmC, lvN_nm (by decide), h8.2]; decide⟩
  | true =>
    obtain ⟨S0, hh, h1, h2, h3, h4, h5, h6, h7, h8⟩ := h
    exact ⟨h1, h2, h6.1, h7.1, h8.1, h6.2.1, h7.2.1, by rw [nmE, lvN_nm (by decide), ← hh.2.1 127 (by decide), h6.2.2]; decide, by rw [nmS, lvN_nm (by decide), ← hh.2.1 126 (by decide), h7.2.2]; decide, by rw [nmC, lvN_nm (by decide), ← hh.2.1 125 (by decide), h8.2]; decide⟩
section MORE
variable {b : Bool} {E : awE} {M : awM} {pc : Nat} {lv lv' : List (Nat × Value)} {st : List Value} {S : awS} {kc ks : Nat} {Q : Option Value → awS → Nat → Nat → Prop}
theorem ax_cast {idx f i c : Nat} (hd : decode (awM_c M) pc = .ok (.checkcast idx, 3)) (hw : Cond.classLink (awM_y M).cls idx (oCl c).1 ∈ awBig) (hf : fK f = c) (hc : c < 14) (k : awX b E M (pc + 3) lv (.ref (nm f i) :: st) S kc ks Q) : awX b E M pc lv (.ref (nm f i) :: st) S kc ks Q := by
  refine awX.step awUp_rf (Nat.le_refl _) (Nat.le_refl _) (fun p e R s m args below meth c0 H locs ad ls Z hC wf hR hlo hls _ _ _ _ kk => ?_) k
  exact va_castS hC.1 hC.2.1 hC.2.2.2.2.2.1 (hC.2.2.2.2.2.2.1 _ hw) (hC.2.2.2.2.2.2.2.1.1.1 c _ (oCl_at c hc)).2 (awR_recv hC.2.2.2.2.2.2.2.1 hR hf hc wf.top) hd (kk H locs ad ls awAg_rf wf hR hlo hls)
theorem ax_slen (hd : decode (awM_c M) pc = .ok (.arraylength, 1)) (k : awX b E M (pc + 1) lv (.int (nI (awE_n E)) :: st) S kc ks Q) : awX b E M pc lv (.ref nmS :: st) S kc ks Q := by
  refine awX.step awUp_rf (Nat.le_refl _) (Nat.le_refl _) (fun p e R s m args below meth c0 H locs ad ls Z hC wf hR hlo hls _ _ _ _ kk => ?_) k
  have hw := awR_low hR
  have k2 := kk H locs ad ls awAg_rf (wf.pop.pi (x := nI (awE_n E))) hR hlo hls
  show W _ _ _ _ _ _ _ _ _ _ _ _ _ _ _ (F0 m pc ls (.ref (ad nmS) :: _))
  rw [hw.2.2.2.1]
  obtain ⟨scr, h1, h2, h3, h4, h5⟩ := hC.2.2.2.2.2.2.2.1.2.2.2.1
  exact W.alen (n := nI (awE_n E)) hC.1 hC.2.1 (by rw [hw.1 _ hw.2.2.2.2.2.2.1]; exact h1) h2 (by rw [h4]; rfl) rfl rfl hd k2
theorem ax_sld {x : Int32} (hd : decode (awM_c M) pc = .ok (.iaload, 1)) (hin : vp_in x (awE_n E)) (k : awX b E M (pc + 1) lv (.int (awE_x E x.toNatClampNeg) :: st) S kc ks Q) : awX b E M pc lv (.int x :: .ref nmS :: st) S kc ks Q := by
  refine awX.step awUp_rf (Nat.le_refl _) (Nat.le_refl _) (fun p e R s m args below meth c0 H locs ad ls Z hC wf hR hlo hls _ _ _ _ kk => ?_) k
  have hw := awR_low hR
  have k2 := kk H locs ad ls awAg_rf (wf.pop.pop.pi (x := awE_x E x.toNatClampNeg)) hR hlo hls
  show W _ _ _ _ _ _ _ _ _ _ _ _ _ _ _ (F0 m pc ls (.int x :: .ref (ad nmS) :: _))
  rw [hw.2.2.2.1]
  obtain ⟨scr, h1, h2, h3, h4, h5⟩ := hC.2.2.2.2.2.2.2.1.2.2.2.1
  have hlt : x.toNatClampNeg < awE_n E := Nat.not_le.mp fun q => hin (Or.inr q)
  exact W.iald hC.1 hC.2.1 (by rw [hw.1 _ hw.2.2.2.2.2.2.1]; exact h1) h2 h3 (by rw [h4]; exact hin) (h5 _ hlt) rfl rfl hd k2
theorem ax_elen (hd : decode (awM_c M) pc = .ok (.arraylength, 1)) (k : awX b E M (pc + 1) lv (.int 0 :: st) S kc ks Q) : awX b E M pc lv (.ref nmE :: st) S kc ks Q := by
  refine awX.step awUp_rf (Nat.le_refl _) (Nat.le_refl _) (fun p e R s m args below meth c0 H locs ad ls Z hC wf hR hlo hls _ _ _ _ kk => ?_) k
  have hw := awR_low hR
  have k2 := kk H locs ad ls awAg_rf (wf.pop.pi (x := 0)) hR hlo hls
  show W _ _ _ _ _ _ _ _ _ _ _ _ _ _ _ (F0 m pc ls (.ref (ad nmE) :: _))
  rw [hw.2.2.1]
  obtain ⟨cell, h1, h2, h3, h4, h5, h6, h7⟩ := hC.2.2.2.2.2.2.2.1.2.2.1
  exact W.alen (n := 0) hC.1 hC.2.1 (by rw [hw.1 _ hw.2.2.2.2.2.1]; exact h1) h2 h5 rfl rfl hd k2
theorem ax_getE {idx : Nat} (hd : decode (awM_c M) pc = .ok (.getstatic idx, 3)) (hw : Cond.fieldLink (awM_y M).cls idx "java/util/ArrayList" "DEFAULTCAPACITY_EMPTY_ELEMENTDATA" "[Ljava/lang/Object;" ∈ awBig) (k : awX b E M (pc + 3) lv (.ref nmE :: st) S kc ks Q) : awX b E M pc lv st S kc ks Q := by
  refine awX.step awUp_rf (Nat.le_refl _) (Nat.le_refl _) (fun p e R s m args below meth c0 H locs ad ls Z hC wf hR hlo hls _ _ _ _ kk => ?_) k
  have hl := awR_low hR
  have k2 := kk H locs ad ls awAg_rf (wf.push (v := .ref nmE) hl.2.2.2.2.2.2.2.1) hR hlo hls
  rw [List.map_cons, show rnv ad (.ref nmE) = .ref (awE_e E) from congrArg Value.ref hl.2.2.1] at k2
  obtain ⟨cf, kf, fi, f, a, cell, h1, h2, h3, h4, h5, h6, h7, h8⟩ := hC.2.2.2.2.2.2.2.1.2.1
  have ha : a < awE_lo E := Nat.lt_of_not_le h8
  exact W.gets hC.1 hC.2.1 hC.2.2.2.2.2.1 (hC.2.2.2.2.2.2.1 _ hw) h1 h2 h3 h4 (by rw [hl.1 a ha]; exact h5) (fun e => by rw [e] at h6; cases h6) h7 rfl hd k2
theorem ax_ldcC {idx : Nat} (hd : decode (awM_c M) pc = .ok (.ldc idx, 2)) (hw : Cond.classLink (awM_y M).cls idx "[Ljava/lang/Object;" ∈ awBig) (k : awX b E M (pc + 2) lv (.ref nmC :: st) S kc ks Q) : awX b E M pc lv st S kc ks Q := by
  refine awX.step awUp_rf (Nat.le_refl _) (Nat.le_refl _) (fun p e R s m args below meth c0 H locs ad ls Z hC wf hR hlo hls _ _ _ _ kk => ?_) k
  have hl := awR_low hR
  have k2 := kk H locs ad ls awAg_rf (wf.push (v := .ref nmC) hl.2.2.2.2.2.2.2.2.2) hR hlo hls
  rw [List.map_cons, show rnv ad (.ref nmC) = .ref (awE_c E) from congrArg Value.ref hl.2.2.2.2.1] at k2
  exact va_ldcM hC.1 hC.2.1 hC.2.2.2.2.2.1 (hC.2.2.2.2.2.2.1 _ hw) hC.2.2.2.2.2.2.2.1.2.2.2.2.2.2.2.2.1 hd k2
-- GENERATED BELOW
theorem ax_newA {idx f n : Nat} {x : Int32} (hd : decode (awM_c M) pc = .ok (.anewarray idx, 3)) (hw : Cond.classLink (awM_y M).cls idx "AlarmTower$Watch" ∈ awBig) (hf : fK f = 24) (hb : nb b f = true) (hx : ¬ x < 0) (hn : x.toNatClampNeg = n) (hs : n * 8 ≤ 536870912) (kk : awX b E M (pc + 3) lv (.ref (nm f (sC S f)) :: st) (wNew S f n) (kc + 1) (ks + n) Q) : awX b E M pc lv (.int x :: st) S kc ks Q := by
  have hff := fK_row (f := f) (by rw [hf]; decide)
  subst hn
  refine awX.step (fun m hm => (lvN_new hff.2).mpr (Or.inl hm)) (Nat.le_add_right _ _) (Nat.le_add_right _ _) (fun p e R s m args below meth c0 H locs ad ls Z hC wf hR hlo hls _ _ hcc hss kk => ?_) kk
  refine W.anew hC.1 hC.2.1 hC.2.2.2.2.2.1 (hC.2.2.2.2.2.2.1 _ hw) (va_AO.use hC.2.2.2.2.2.2.2.1.2.2.2.2.2.2.2.1.1) rfl hd rfl hx (Nat.le_trans (Nat.mul_le_mul_left _ (by decide)) hs) hcc hss fun cA kA comp f1 f2 f3 f4 => ?_
  obtain ⟨-, -, -, -, -, g4⟩ := (hC.2.2.2.2.2.2.2.1.1.2 4 _ rfl).2
  have hcA : cA = awE_A E 4 := Option.some.inj (f1.symm.trans g4)
  subst hcA
  generalize hH1 : H.push ({ cls := awE_A E 4, slots := Array.replicate x.toNatClampNeg .null, vm := .none } : Cell) = H1
  have z1 : H1.size = H.size + 1 := by rw [← hH1, Array.size_push]
  have e1 : H1[H.size]? = some (arrV (awE_A E 4) x.toNatClampNeg (fun _ => .null)) := by rw [← hH1, Array.getElem?_push_size, ← arrV_new]
  have o1 : ∀ q : Nat, q < H.size → H1[q]? = H[q]? := fun q hq => by rw [← hH1, Array.getElem?_push, if_neg (Nat.ne_of_lt hq)]
  have hag : awAg S ad (adN ad (nm f (sC S f)) H.size) := awAg_new hff.2
  have up : ∀ v, lvV S v → lvV (wNew S f x.toNatClampNeg) v := fun v h => h.up (fun m hm => (lvN_new hff.2).mpr (Or.inl hm))
  have k2 := kk H1 locs (adN ad (nm f (sC S f)) H.size) ls hag ⟨fun q hq => up _ (wf.1 q hq), fun v hv => (List.mem_cons.mp hv).elim (fun e => by rw [e]; exact (lvN_new hff.2).mpr (Or.inr rfl)) (fun h => up _ (wf.pop.2 v h))⟩ (awR_new hR hff.1 hff.2 hb z1 o1 ?_) hlo (by rw [lvm_ag hag wf.1]; exact hls)
  · rw [List.map_cons, st_ag hag wf.pop.2] at k2
    have e0 : rnv (adN ad (nm f (sC S f)) H.size) (.ref (nm f (sC S f))) = .ref H.size := congrArg Value.ref (if_pos rfl)
    rw [e0] at k2
    exact k2
  · rw [awCell_A hf]
    show H1[H.size]? = some (vp_cell _ _)
    rw [e1, vp_cell_q, sN_wN, if_pos ⟨rfl, rfl⟩]
    congr 2
    funext j
    rw [sR_wN, if_pos ⟨rfl, rfl⟩]
    rfl
theorem ax_newD {idx f n : Nat} {x : Int32} (hd : decode (awM_c M) pc = .ok (.anewarray idx, 3)) (hw : Cond.classLink (awM_y M).cls idx "AlarmTower$Board" ∈ awBig) (hf : fK f = 26) (hb : nb b f = true) (hx : ¬ x < 0) (hn : x.toNatClampNeg = n) (hs : n * 8 ≤ 536870912) (kk : awX b E M (pc + 3) lv (.ref (nm f (sC S f)) :: st) (wNew S f n) (kc + 1) (ks + n) Q) : awX b E M pc lv (.int x :: st) S kc ks Q := by
  have hff := fK_row (f := f) (by rw [hf]; decide)
  subst hn
  refine awX.step (fun m hm => (lvN_new hff.2).mpr (Or.inl hm)) (Nat.le_add_right _ _) (Nat.le_add_right _ _) (fun p e R s m args below meth c0 H locs ad ls Z hC wf hR hlo hls _ _ hcc hss kk => ?_) kk
  refine W.anew hC.1 hC.2.1 hC.2.2.2.2.2.1 (hC.2.2.2.2.2.2.1 _ hw) (va_AO.use hC.2.2.2.2.2.2.2.1.2.2.2.2.2.2.2.1.2) rfl hd rfl hx (Nat.le_trans (Nat.mul_le_mul_left _ (by decide)) hs) hcc hss fun cA kA comp f1 f2 f3 f4 => ?_
  obtain ⟨-, -, -, -, -, g4⟩ := (hC.2.2.2.2.2.2.2.1.1.2 6 _ rfl).2
  have hcA : cA = awE_A E 6 := Option.some.inj (f1.symm.trans g4)
  subst hcA
  generalize hH1 : H.push ({ cls := awE_A E 6, slots := Array.replicate x.toNatClampNeg .null, vm := .none } : Cell) = H1
  have z1 : H1.size = H.size + 1 := by rw [← hH1, Array.size_push]
  have e1 : H1[H.size]? = some (arrV (awE_A E 6) x.toNatClampNeg (fun _ => .null)) := by rw [← hH1, Array.getElem?_push_size, ← arrV_new]
  have o1 : ∀ q : Nat, q < H.size → H1[q]? = H[q]? := fun q hq => by rw [← hH1, Array.getElem?_push, if_neg (Nat.ne_of_lt hq)]
  have hag : awAg S ad (adN ad (nm f (sC S f)) H.size) := awAg_new hff.2
  have up : ∀ v, lvV S v → lvV (wNew S f x.toNatClampNeg) v := fun v h => h.up (fun m hm => (lvN_new hff.2).mpr (Or.inl hm))
  have k2 := kk H1 locs (adN ad (nm f (sC S f)) H.size) ls hag ⟨fun q hq => up _ (wf.1 q hq), fun v hv => (List.mem_cons.mp hv).elim (fun e => by rw [e]; exact (lvN_new hff.2).mpr (Or.inr rfl)) (fun h => up _ (wf.pop.2 v h))⟩ (awR_new hR hff.1 hff.2 hb z1 o1 ?_) hlo (by rw [lvm_ag hag wf.1]; exact hls)
  · rw [List.map_cons, st_ag hag wf.pop.2] at k2
    have e0 : rnv (adN ad (nm f (sC S f)) H.size) (.ref (nm f (sC S f))) = .ref H.size := congrArg Value.ref (if_pos rfl)
    rw [e0] at k2
    exact k2
  · rw [awCell_D hf]
    show H1[H.size]? = some (vp_cell _ _)
    rw [e1, vp_cell_q, sN_wN, if_pos ⟨rfl, rfl⟩]
    congr 2
    funext j
    rw [sR_wN, if_pos ⟨rfl, rfl⟩]
    rfl
theorem ax_newO {idx f n : Nat} {x : Int32} (hd : decode (awM_c M) pc = .ok (.anewarray idx, 3)) (hw : Cond.classLink (awM_y M).cls idx "java/lang/Object" ∈ awBig) (hf : fK f = 25) (hb : nb b f = true) (hx : ¬ x < 0) (hn : x.toNatClampNeg = n) (hs : n * 8 ≤ 536870912) (kk : awX b E M (pc + 3) lv (.ref (nm f (sC S f)) :: st) (wNew S f n) (kc + 1) (ks + n) Q) : awX b E M pc lv (.int x :: st) S kc ks Q := by
  have hff := fK_row (f := f) (by rw [hf]; decide)
  subst hn
  refine awX.step (fun m hm => (lvN_new hff.2).mpr (Or.inl hm)) (Nat.le_add_right _ _) (Nat.le_add_right _ _) (fun p e R s m args below meth c0 H locs ad ls Z hC wf hR hlo hls _ _ hcc hss kk => ?_) kk
  refine W.anew hC.1 hC.2.1 hC.2.2.2.2.2.1 (hC.2.2.2.2.2.2.1 _ hw) (va_AO.use hC.2.2.2.2.2.2.2.1.2.2.2.2.2.2.1) rfl hd rfl hx (Nat.le_trans (Nat.mul_le_mul_left _ (by decide)) hs) hcc hss fun cA kA comp f1 f2 f3 f4 => ?_
  obtain ⟨-, -, -, -, -, g4⟩ := (hC.2.2.2.2.2.2.2.1.1.2 5 _ rfl).2
  have hcA : cA = awE_A E 5 := Option.some.inj (f1.symm.trans g4)
  subst hcA
  generalize hH1 : H.push ({ cls := awE_A E 5, slots := Array.replicate x.toNatClampNeg .null, vm := .none } : Cell) = H1
  have z1 : H1.size = H.size + 1 := by rw [← hH1, Array.size_push]
  have e1 : H1[H.size]? = some (arrV (awE_A E 5) x.toNatClampNeg (fun _ => .null)) := by rw [← hH1, Array.getElem?_push_size, ← arrV_new]
  have o1 : ∀ q : Nat, q < H.size → H1[q]? = H[q]? := fun q hq => by rw [← hH1, Array.getElem?_push, if_neg (Nat.ne_of_lt hq)]
  have hag : awAg S ad (adN ad (nm f (sC S f)) H.size) := awAg_new hff.2
  have up : ∀ v, lvV S v → lvV (wNew S f x.toNatClampNeg) v := fun v h => h.up (fun m hm => (lvN_new hff.2).mpr (Or.inl hm))
  have k2 := kk H1 locs (adN ad (nm f (sC S f)) H.size) ls hag ⟨fun q hq => up _ (wf.1 q hq), fun v hv => (List.mem_cons.mp hv).elim (fun e => by rw [e]; exact (lvN_new hff.2).mpr (Or.inr rfl)) (fun h => up _ (wf.pop.2 v h))⟩ (awR_new hR hff.1 hff.2 hb z1 o1 ?_) hlo (by rw [lvm_ag hag wf.1]; exact hls)
  · rw [List.map_cons, st_ag hag wf.pop.2] at k2
    have e0 : rnv (adN ad (nm f (sC S f)) H.size) (.ref (nm f (sC S f))) = .ref H.size := congrArg Value.ref (if_pos rfl)
    rw [e0] at k2
    exact k2
  · rw [awCell_O hf]
    show H1[H.size]? = some (vp_cell _ _)
    rw [e1, vp_cell_q, sN_wN, if_pos ⟨rfl, rfl⟩]
    congr 2
    funext j
    rw [sR_wN, if_pos ⟨rfl, rfl⟩]
    rfl
theorem ax_aast {f i g j : Nat} {x : Int32} (hd : decode (awM_c M) pc = .ok (.aastore, 1)) (hf : fK f = 24) (hb : nb b f = true) (hq : fK g = 11) (hin : vp_in x (sN S f i)) (kk : awX b E M (pc + 1) lv st (wR S f i x.toNatClampNeg (some (nm g j))) kc ks Q) : awX b E M pc lv (.ref (nm g j) :: .int x :: .ref (nm f i) :: st) S kc ks Q := by
  refine awX.step (S1 := wR S f i x.toNatClampNeg (some (nm g j))) (fun n h => h) (Nat.le_refl _) (Nat.le_refl _) (fun p e R s m args below meth c0 H locs ad ls Z hC wf hR hlo hls _ _ _ _ kk => ?_) kk
  have hff := fK_row (by rw [hf]; decide)
  have hl : lvN S (nm f i) := wf.pop.pop.top
  have hlv : lvN S (nm g j) := wf.top
  obtain ⟨hlo1, hat⟩ := awR_at hR hff.1 hff.2 hb hl
  rw [awCell_A hf] at hat
  have hlt : x.toNatClampNeg < sN S f i := Nat.not_le.mp fun q => hin (Or.inr q)
  have h0 : ¬ x < 0 := fun q => hin (Or.inl q)
  have hcls := (hC.2.2.2.2.2.2.2.1.1.1 11 _ rfl).2
  obtain ⟨kA, comp, k1, k2, k3, -⟩ := (hC.2.2.2.2.2.2.2.1.1.2 4 _ rfl).2
  have hcomp : comp = (awE_D E).1 11 := Option.some.inj (k3.symm.trans hcls.1)
  subst hcomp
  obtain ⟨kC, hkC, -⟩ := hcls.2
  obtain ⟨cellV, g1, g2, g3⟩ := awR_recv (c := 11) hC.2.2.2.2.2.2.2.1 hR hq (by decide) hlv
  have g4 : cellV.cls = (awE_D E).1 11 := Option.some.inj (g3.symm.trans hcls.1)
  have hasg : s.vm.assignable cellV.cls ((awE_D E).1 11) = true := by rw [g4]; exact va_assign hcls
  have hkv : s.vm.classes[cellV.cls]? = some kC := by rw [g4]; exact hkC
  have hkcomp : s.vm.classes[(awE_D E).1 11]? = some kC := hkC
  refine W.aast hC.1 hC.2.1 hat (fun q h => by cases h) (fun h => by cases h) k1 k2 rfl hkcomp ⟨h0, by show _ < (arrV _ _ _).slots.size; rw [arrV_size]; exact hlt⟩ g1 (fun q h => by rw [h] at g2; cases g2) hkv hasg rfl rfl hd fun H1 e z oq => ?_
  refine kk H1 _ ad ls awAg_rf wf.pop.pop.pop (awR_wR hR hff.1 hff.2 hb hl (fun r e => by cases e; exact hlv) ?_ z oq) (fun q hq => ?_) hls
  · rw [awCell_A hf]
    show H1[ad (nm f i)]? = some (vp_cell _ _)
    rw [e]
    rw [vp_cell_q, vp_cell_q, arrV_store]
    congr 2
    funext q
    show _ = va_rf ((sR (wR S f i x.toNatClampNeg (some (nm g j))) f i q).map ad)
    rw [sR_wR]
    by_cases hq : q = x.toNatClampNeg
    · subst hq
      rw [if_pos ⟨rfl, rfl, rfl⟩]
      unfold updV
      rw [if_pos rfl]
      rfl
    · rw [if_neg (fun z => hq z.2.2)]
      unfold updV
      rw [if_neg hq]
  · rcases List.mem_append.mp hq with h | h
    · exact hlo q h
    · rw [List.mem_singleton.mp h]; exact hlo1
theorem ax_dast {f i g j : Nat} {x : Int32} (hd : decode (awM_c M) pc = .ok (.aastore, 1)) (hf : fK f = 26) (hb : nb b f = true) (hq : fK g = 2) (hin : vp_in x (sN S f i)) (kk : awX b E M (pc + 1) lv st (wR S f i x.toNatClampNeg (some (nm g j))) kc ks Q) : awX b E M pc lv (.ref (nm g j) :: .int x :: .ref (nm f i) :: st) S kc ks Q := by
  refine awX.step (S1 := wR S f i x.toNatClampNeg (some (nm g j))) (fun n h => h) (Nat.le_refl _) (Nat.le_refl _) (fun p e R s m args below meth c0 H locs ad ls Z hC wf hR hlo hls _ _ _ _ kk => ?_) kk
  have hff := fK_row (by rw [hf]; decide)
  have hl : lvN S (nm f i) := wf.pop.pop.top
  have hlv : lvN S (nm g j) := wf.top
  obtain ⟨hlo1, hat⟩ := awR_at hR hff.1 hff.2 hb hl
  rw [awCell_D hf] at hat
  have hlt : x.toNatClampNeg < sN S f i := Nat.not_le.mp fun q => hin (Or.inr q)
  have h0 : ¬ x < 0 := fun q => hin (Or.inl q)
  have hcls := (hC.2.2.2.2.2.2.2.1.1.1 2 _ rfl).2
  obtain ⟨kA, comp, k1, k2, k3, -⟩ := (hC.2.2.2.2.2.2.2.1.1.2 6 _ rfl).2
  have hcomp : comp = (awE_D E).1 2 := Option.some.inj (k3.symm.trans hcls.1)
  subst hcomp
  obtain ⟨kC, hkC, -⟩ := hcls.2
  obtain ⟨cellV, g1, g2, g3⟩ := awR_recv (c := 2) hC.2.2.2.2.2.2.2.1 hR hq (by decide) hlv
  have g4 : cellV.cls = (awE_D E).1 2 := Option.some.inj (g3.symm.trans hcls.1)
  have hasg : s.vm.assignable cellV.cls ((awE_D E).1 2) = true := by rw [g4]; exact va_assign hcls
  have hkv : s.vm.classes[cellV.cls]? = some kC := by rw [g4]; exact hkC
  have hkcomp : s.vm.classes[(awE_D E).1 2]? = some kC := hkC
  refine W.aast hC.1 hC.2.1 hat (fun q h => by cases h) (fun h => by cases h) k1 k2 rfl hkcomp ⟨h0, by show _ < (arrV _ _ _).slots.size; rw [arrV_size]; exact hlt⟩ g1 (fun q h => by rw [h] at g2; cases g2) hkv hasg rfl rfl hd fun H1 e z oq => ?_
  refine kk H1 _ ad ls awAg_rf wf.pop.pop.pop (awR_wR hR hff.1 hff.2 hb hl (fun r e => by cases e; exact hlv) ?_ z oq) (fun q hq => ?_) hls
  · rw [awCell_D hf]
    show H1[ad (nm f i)]? = some (vp_cell _ _)
    rw [e]
    rw [vp_cell_q, vp_cell_q, arrV_store]
    congr 2
    funext q
    show _ = va_rf ((sR (wR S f i x.toNatClampNeg (some (nm g j))) f i q).map ad)
    rw [sR_wR]
    by_cases hq : q = x.toNatClampNeg
    · subst hq
      rw [if_pos ⟨rfl, rfl, rfl⟩]
      unfold updV
      rw [if_pos rfl]
      rfl
    · rw [if_neg (fun z => hq z.2.2)]
      unfold updV
      rw [if_neg hq]
  · rcases List.mem_append.mp hq with h | h
    · exact hlo q h
    · rw [List.mem_singleton.mp h]; exact hlo1
theorem awCst_o (c : Nat) (hc : c < 14) : ((oCl c).1, "java/lang/Object") ∈ awCst := by
  match c, hc with
  | 0, _ => exact (by decide +kernel)
  | 1, _ => exact (by decide +kernel)
  | 2, _ => exact (by decide +kernel)
  | 3, _ => exact (by decide +kernel)
  | 4, _ => exact (by decide +kernel)
  | 5, _ => exact (by decide +kernel)
  | 6, _ => exact (by decide +kernel)
  | 7, _ => exact (by decide +kernel)
  | 8, _ => exact (by decide +kernel)
  | 9, _ => exact (by decide +kernel)
  | 10, _ => exact (by decide +kernel)
  | 11, _ => exact (by decide +kernel)
  | 12, _ => exact (by decide +kernel)
  | 13, _ => exact (by decide +kernel)
  | n + 14, h => omega
theorem ax_oast {f i g j : Nat} {x : Int32} (hd : decode (awM_c M) pc = .ok (.aastore, 1)) (hf : fK f = 25) (hb : nb b f = true) {c : Nat} (hq : fK g = c) (hc : c < 14) (hin : vp_in x (sN S f i)) (kk : awX b E M (pc + 1) lv st (wR S f i x.toNatClampNeg (some (nm g j))) kc ks Q) : awX b E M pc lv (.ref (nm g j) :: .int x :: .ref (nm f i) :: st) S kc ks Q := by
  refine awX.step (S1 := wR S f i x.toNatClampNeg (some (nm g j))) (fun n h => h) (Nat.le_refl _) (Nat.le_refl _) (fun p e R s m args below meth c0 H locs ad ls Z hC wf hR hlo hls _ _ _ _ kk => ?_) kk
  have hff := fK_row (by rw [hf]; decide)
  have hl : lvN S (nm f i) := wf.pop.pop.top
  have hlv : lvN S (nm g j) := wf.top
  obtain ⟨hlo1, hat⟩ := awR_at hR hff.1 hff.2 hb hl
  rw [awCell_O hf] at hat
  have hlt : x.toNatClampNeg < sN S f i := Nat.not_le.mp fun q => hin (Or.inr q)
  have h0 : ¬ x < 0 := fun q => hin (Or.inl q)
  obtain ⟨kA, comp, k1, k2, k3, -⟩ := (hC.2.2.2.2.2.2.2.1.1.2 5 _ rfl).2
  obtain ⟨cellV, g1, g2, g3⟩ := awR_recv (c := c) hC.2.2.2.2.2.2.2.1 hR hq hc hlv
  obtain ⟨c0', t0', f1, f2, hasg⟩ := Cond.castable_spec (va_Nw.use (A := args) rfl (hC.2.2.2.2.2.2.2.1.2.2.2.2.1 _ (awCst_o c hc)))
  cases f1.symm.trans g3
  cases f2.symm.trans k3
  obtain ⟨kv, hkv, -⟩ := Vm.findClass_spec g3
  obtain ⟨kcomp, hkcomp, -⟩ := Vm.findClass_spec k3
  refine W.aast hC.1 hC.2.1 hat (fun q h => by cases h) (fun h => by cases h) k1 k2 rfl hkcomp ⟨h0, by show _ < (arrV _ _ _).slots.size; rw [arrV_size]; exact hlt⟩ g1 (fun q h => by rw [h] at g2; cases g2) hkv hasg rfl rfl hd fun H1 e z oq => ?_
  refine kk H1 _ ad ls awAg_rf wf.pop.pop.pop (awR_wR hR hff.1 hff.2 hb hl (fun r e => by cases e; exact hlv) ?_ z oq) (fun q hq => ?_) hls
  · rw [awCell_O hf]
    show H1[ad (nm f i)]? = some (vp_cell _ _)
    rw [e]
    rw [vp_cell_q, vp_cell_q, arrV_store]
    congr 2
    funext q
    show _ = va_rf ((sR (wR S f i x.toNatClampNeg (some (nm g j))) f i q).map ad)
    rw [sR_wR]
    by_cases hq : q = x.toNatClampNeg
    · subst hq
      rw [if_pos ⟨rfl, rfl, rfl⟩]
      unfold updV
      rw [if_pos rfl]
      rfl
    · rw [if_neg (fun z => hq z.2.2)]
      unfold updV
      rw [if_neg hq]
  · rcases List.mem_append.mp hq with h | h
    · exact hlo q h
    · rw [List.mem_singleton.mp h]; exact hlo1
end MORE
