section ENDS
variable {b : Bool} {E : awE} {M : awM} {pc : Nat} {lv lv' : List (Nat × Value)} {st : List Value} {S : awS} {kc ks : Nat} {Q : Option Value → awS → Nat → Nat → Prop}
end ENDS
section CALLS
variable {b : Bool} {E : awE} {M : awM} {pc : Nat} {lv lv' : List (Nat × Value)} {st stk : List Value} {S : awS} {kc ks : Nat} {Q : Option Value → awS → Nat → Nat → Prop}
theorem av_invV {idx f i c n : Nat} {Mc : awM} {As : List Value} (hd : decode (awM_c M) pc = .ok (.invokevirtual idx, 3)) (hw : awCallB Mc n) (w1 : Cond.methodLink (awM_y M).cls idx (awM_y Mc) ∈ awBig) (w2 : Cond.instanceMethod (awM_y Mc) ∈ awBig) (w3 : Cond.selects (oCl c).1 (awM_y Mc) (awM_y Mc) ∈ awBig) (hf : fK f = c) (hc : c < 14) (hn : As.length = n) (hroom : awRoom M Mc) (hst : (st.map fun v => v.category).sum ≤ 8) (hstk : stk = As.reverse ++ .ref (nm f i) :: st)
    (k : awT b E Mc (.ref (nm f i) :: As) S (fun r S1 mc1 ms1 => awV b E M (pc + 3) lv (r.toList ++ st) S1 (kc + mc1) (ks + ms1) Q)) : awV b E M pc lv stk S kc ks Q := by
  obtain ⟨r, S1, mc1, ms1, hQ, hu, hM⟩ := k
  subst hstk
  refine awV.step hu (Nat.le_add_right _ _) (Nat.le_add_right _ _) (fun p e R s m args below meth c0 H locs ad ls Z hC wf hR hlo hls hfr hlc hcc hss kk => ?_) hQ
  have hts := hC.2.2.2.2.2.2.1
  have hlv : ∀ v ∈ Value.ref (nm f i) :: As, lvV S v := fun v hv => wf.2 v (by
    rcases List.mem_cons.mp hv with h | h
    · rw [h]; exact List.mem_append_right _ List.mem_cons_self
    · exact List.mem_append_left _ (List.mem_reverse.mpr h))
  have hst2 : ∀ v ∈ st, lvV S v := fun v hv => wf.2 v (List.mem_append_right _ (List.mem_cons_of_mem _ hv))
  refine aw_cont (va_runV (As := As.map (rnv ad)) (rest := st.map (rnv ad)) ⟨hC.1, hC.2.1, hC.2.2.2.2.1, hC.2.2.2.2.2.1, hts⟩ (hM ad hlv)
    ⟨callB_of n hts (awBig_cons hw.2.1) rfl rfl rfl (hts _ hw.1) (hts _ w1) hw.2.2 ⟨Nat.le_trans hroom.1 hfr, Nat.le_trans hroom.2 hlc⟩, hts _ w2, hts _ w3⟩
    ⟨awPc_blind, awR_recv hC.2.2.2.2.2.2.2.1 hR hf hc (hlv _ List.mem_cons_self), fun U hU hW => ⟨rfl, by rw [hU]; exact hR, hC.2.2.2.2.2.2.2.1.moved hW⟩⟩ rfl (by rw [List.length_map]; exact hn) hls.1 (by rw [List.map_append, List.map_reverse]; rfl) (lv_room (by rw [List.map_map]; simp only [Function.comp_def, rnv_cat]; exact hst)) hd ⟨hcc, hss⟩) wf.1 hst2 hu hlo hls kk
theorem av_invS {idx n : Nat} {Mc : awM} {As : List Value} (hd : decode (awM_c M) pc = .ok (.invokestatic idx, 3)) (hw : awCallB Mc n) (w1 : Cond.methodLink (awM_y M).cls idx (awM_y Mc) ∈ awBig) (w2 : Cond.static (awM_y Mc) ∈ awBig) (hn : As.length = n) (hroom : awRoom M Mc) (hst : (st.map fun v => v.category).sum ≤ 8) (hstk : stk = As.reverse ++ st)
    (k : awT b E Mc As S (fun r S1 mc1 ms1 => awV b E M (pc + 3) lv (r.toList ++ st) S1 (kc + mc1) (ks + ms1) Q)) : awV b E M pc lv stk S kc ks Q := by
  obtain ⟨r, S1, mc1, ms1, hQ, hu, hM⟩ := k
  subst hstk
  refine awV.step hu (Nat.le_add_right _ _) (Nat.le_add_right _ _) (fun p e R s m args below meth c0 H locs ad ls Z hC wf hR hlo hls hfr hlc hcc hss kk => ?_) hQ
  have hts := hC.2.2.2.2.2.2.1
  have hlv : ∀ v ∈ As, lvV S v := fun v hv => wf.2 v (List.mem_append_left _ (List.mem_reverse.mpr hv))
  have hst2 : ∀ v ∈ st, lvV S v := fun v hv => wf.2 v (List.mem_append_right _ hv)
  refine aw_cont (va_runS (As := As.map (rnv ad)) (rest := st.map (rnv ad)) ⟨hC.1, hC.2.1, hC.2.2.2.2.1, hC.2.2.2.2.2.1, hts⟩ (hM ad hlv)
    ⟨callB_of n hts (awBig_cons hw.2.1) rfl rfl rfl (hts _ hw.1) (hts _ w1) hw.2.2 ⟨Nat.le_trans hroom.1 hfr, Nat.le_trans hroom.2 hlc⟩, hts _ w2⟩
    ⟨awPc_blind, fun U hU hW => ⟨rfl, by rw [hU]; exact hR, hC.2.2.2.2.2.2.2.1.moved hW⟩⟩ rfl (by rw [List.length_map]; exact hn) hls.1 (by rw [List.map_append, List.map_reverse]) (lv_room (by rw [List.map_map]; simp only [Function.comp_def, rnv_cat]; exact hst)) hd ⟨hcc, hss⟩) wf.1 hst2 hu hlo hls kk
theorem av_invI {idx n q : Nat} {Mc : awM} {As : List Value} (hd : decode (awM_c M) pc = .ok (.invokespecial idx, 3)) (hw : awCallB Mc n) (w1 : Cond.methodLink (awM_y M).cls idx (awM_y Mc) ∈ awBig) (w2 : Cond.instanceMethod (awM_y Mc) ∈ awBig) (hy1 : (awM_y Mc).name = "<init>") (hret : awM_r Mc = none) (hn : As.length = n) (hroom : awRoom M Mc) (hst : (st.map fun v => v.category).sum ≤ 8) (hstk : stk = As.reverse ++ .ref q :: st)
    (k : awT b E Mc (.ref q :: As) S (fun r S1 mc1 ms1 => awV b E M (pc + 3) lv (r.toList ++ st) S1 (kc + mc1) (ks + ms1) Q)) : awV b E M pc lv stk S kc ks Q := by
  obtain ⟨r, S1, mc1, ms1, hQ, hu, hM⟩ := k
  subst hstk
  refine awV.step hu (Nat.le_add_right _ _) (Nat.le_add_right _ _) (fun p e R s m args below meth c0 H locs ad ls Z hC wf hR hlo hls hfr hlc hcc hss kk => ?_) hQ
  have hts := hC.2.2.2.2.2.2.1
  have hlv : ∀ v ∈ Value.ref q :: As, lvV S v := fun v hv => wf.2 v (by
    rcases List.mem_cons.mp hv with h | h
    · rw [h]; exact List.mem_append_right _ List.mem_cons_self
    · exact List.mem_append_left _ (List.mem_reverse.mpr h))
  have hst2 : ∀ v ∈ st, lvV S v := fun v hv => wf.2 v (List.mem_append_right _ (List.mem_cons_of_mem _ hv))
  have hM2 := hM ad hlv
  have hcode := hw.2.1
  rw [hret] at hM2 hcode
  refine aw_cont (va_runI (b := ad q) (As := As.map (rnv ad)) (rest := st.map (rnv ad)) ⟨hC.1, hC.2.1, hC.2.2.2.2.1, hC.2.2.2.2.2.1, hts⟩ hM2
    ⟨callB_of n hts (awBig_cons hcode) rfl rfl rfl (hts _ hw.1) (hts _ w1) hw.2.2 ⟨Nat.le_trans hroom.1 hfr, Nat.le_trans hroom.2 hlc⟩, hy1, hts _ w2⟩
    ⟨awPc_blind, fun U hU hW => ⟨rfl, by rw [hU]; exact hR, hC.2.2.2.2.2.2.2.1.moved hW⟩⟩ rfl (by rw [List.length_map]; exact hn) hls.1 (by rw [List.map_append, List.map_reverse]; rfl) (lv_room (by rw [List.map_map]; simp only [Function.comp_def, rnv_cat]; exact hst)) hd ⟨hcc, hss⟩) wf.1 hst2 hu hlo hls kk
theorem av_invIN {idx n q : Nat} {host : String} {Mc : awM} {As : List Value} (hd : decode (awM_c M) pc = .ok (.invokespecial idx, 3)) (hw : awCallB Mc n) (w1 : ((awM_y M).cls, idx, awM_y Mc, host) ∈ awNst) (w2 : Cond.instanceMethod (awM_y Mc) ∈ awBig) (hy1 : (awM_y Mc).name = "<init>") (hret : awM_r Mc = none) (hn : As.length = n) (hroom : awRoom M Mc) (hst : (st.map fun v => v.category).sum ≤ 8) (hstk : stk = As.reverse ++ .ref q :: st)
    (k : awT b E Mc (.ref q :: As) S (fun r S1 mc1 ms1 => awV b E M (pc + 3) lv (r.toList ++ st) S1 (kc + mc1) (ks + ms1) Q)) : awV b E M pc lv stk S kc ks Q := by
  obtain ⟨r, S1, mc1, ms1, hQ, hu, hM⟩ := k
  subst hstk
  refine awV.step hu (Nat.le_add_right _ _) (Nat.le_add_right _ _) (fun p e R s m args below meth c0 H locs ad ls Z hC wf hR hlo hls hfr hlc hcc hss kk => ?_) hQ
  have hts := hC.2.2.2.2.2.2.1
  have hlv : ∀ v ∈ Value.ref q :: As, lvV S v := fun v hv => wf.2 v (by
    rcases List.mem_cons.mp hv with h | h
    · rw [h]; exact List.mem_append_right _ List.mem_cons_self
    · exact List.mem_append_left _ (List.mem_reverse.mpr h))
  have hst2 : ∀ v ∈ st, lvV S v := fun v hv => wf.2 v (List.mem_append_right _ (List.mem_cons_of_mem _ hv))
  have hM2 := hM ad hlv
  have hcode := hw.2.1
  rw [hret] at hM2 hcode
  refine aw_cont (va_runIN (b := ad q) (As := As.map (rnv ad)) (rest := st.map (rnv ad)) ⟨hC.1, hC.2.1, hC.2.2.2.2.1, hC.2.2.2.2.2.1, hts⟩ hM2
    ⟨va_cnB n hts (awBig_cons hcode) rfl rfl rfl (hC.2.2.2.2.2.2.2.1.2.2.2.2.2.1 _ w1) (hts _ hw.1) hw.2.2 ⟨Nat.le_trans hroom.1 hfr, Nat.le_trans hroom.2 hlc⟩, hy1, hts _ w2⟩
    ⟨awPc_blind, fun U hU hW => ⟨rfl, by rw [hU]; exact hR, hC.2.2.2.2.2.2.2.1.moved hW⟩⟩ rfl (by rw [List.length_map]; exact hn) hls.1 (by rw [List.map_append, List.map_reverse]; rfl) (lv_room (by rw [List.map_map]; simp only [Function.comp_def, rnv_cat]; exact hst)) hd ⟨hcc, hss⟩) wf.1 hst2 hu hlo hls kk
theorem av_invSN {idx n : Nat} {host : String} {Mc : awM} {As : List Value} (hd : decode (awM_c M) pc = .ok (.invokestatic idx, 3)) (hw : awCallB Mc n) (w1 : ((awM_y M).cls, idx, awM_y Mc, host) ∈ awNst) (w2 : Cond.static (awM_y Mc) ∈ awBig) (hn : As.length = n) (hroom : awRoom M Mc) (hst : (st.map fun v => v.category).sum ≤ 8) (hstk : stk = As.reverse ++ st)
    (k : awT b E Mc As S (fun r S1 mc1 ms1 => awV b E M (pc + 3) lv (r.toList ++ st) S1 (kc + mc1) (ks + ms1) Q)) : awV b E M pc lv stk S kc ks Q := by
  obtain ⟨r, S1, mc1, ms1, hQ, hu, hM⟩ := k
  subst hstk
  refine awV.step hu (Nat.le_add_right _ _) (Nat.le_add_right _ _) (fun p e R s m args below meth c0 H locs ad ls Z hC wf hR hlo hls hfr hlc hcc hss kk => ?_) hQ
  have hts := hC.2.2.2.2.2.2.1
  have hlv : ∀ v ∈ As, lvV S v := fun v hv => wf.2 v (List.mem_append_left _ (List.mem_reverse.mpr hv))
  have hst2 : ∀ v ∈ st, lvV S v := fun v hv => wf.2 v (List.mem_append_right _ hv)
  refine aw_cont (va_runSN (As := As.map (rnv ad)) (rest := st.map (rnv ad)) ⟨hC.1, hC.2.1, hC.2.2.2.2.1, hC.2.2.2.2.2.1, hts⟩ (hM ad hlv)
    ⟨va_cnB n hts (awBig_cons hw.2.1) rfl rfl rfl (hC.2.2.2.2.2.2.2.1.2.2.2.2.2.1 _ w1) (hts _ hw.1) hw.2.2 ⟨Nat.le_trans hroom.1 hfr, Nat.le_trans hroom.2 hlc⟩, hts _ w2, trivial⟩
    ⟨awPc_blind, fun U hU hW => ⟨rfl, by rw [hU]; exact hR, hC.2.2.2.2.2.2.2.1.moved hW⟩⟩ rfl (by rw [List.length_map]; exact hn) hls.1 (by rw [List.map_append, List.map_reverse]) (lv_room (by rw [List.map_map]; simp only [Function.comp_def, rnv_cat]; exact hst)) hd ⟨hcc, hss⟩) wf.1 hst2 hu hlo hls kk
theorem av_objInit {idx q : Nat} (hd : decode (awM_c M) pc = .ok (.invokespecial idx, 3)) (w1 : Cond.methodLink (awM_y M).cls idx objectInit ∈ awBig) (w2 : Cond.instanceMethod objectInit ∈ awBig) (w3 : Cond.code objectInit ⟨#[0xb1]⟩ 1 none ∈ awBig) (hroom : 1 ≤ awM_f M ∧ 20 ≤ awM_l M) (hst : (st.map fun v => v.category).sum ≤ 8)
    (k : awV b E M (pc + 3) lv st S kc ks Q) : awV b E M pc lv (.ref q :: st) S kc ks Q := by
  refine awV.step awUp_rf (Nat.le_refl _) (Nat.le_refl _) (fun p e R s m args below meth c0 H locs ad ls Z hC wf hR hlo hls hfr hlc hcc hss kk => ?_) k
  have hts := hC.2.2.2.2.2.2.1
  refine W.objInit (rest := st.map (rnv ad)) hC.1 hC.2.1 hC.2.2.2.2.2.1 (hts _ w1) (hts _ w2) (hts _ w3) rfl (by rw [hC.2.2.2.2.1]; exact hls.1) rfl hd (Nat.le_trans hroom.1 hfr) ?_ (kk H locs ad ls awAg_rf wf.pop hR hlo hls)
  have h8 := lv_room (m := m) (pc := pc) (ls := ls) (rest := .ref (ad q) :: st.map (rnv ad)) (st := st.map (rnv ad)) (by rw [List.map_map]; simp only [Function.comp_def, rnv_cat]; exact hst)
  show _ + 12 ≤ _
  have h9 := hroom.2
  exact Nat.le_trans (Nat.add_le_add_right h8 12) (Nat.le_trans h9 hlc)
end CALLS

section MORE
variable {b : Bool} {E : awE} {M : awM} {pc : Nat} {lv lv' : List (Nat × Value)} {st : List Value} {S : awS} {kc ks : Nat} {Q : Option Value → awS → Nat → Nat → Prop}
theorem av_cast {idx f i c : Nat} (hd : decode (awM_c M) pc = .ok (.checkcast idx, 3)) (hw : Cond.classLink (awM_y M).cls idx (oCl c).1 ∈ awBig) (hf : fK f = c) (hc : c < 14) (k : awV b E M (pc + 3) lv (.ref (nm f i) :: st) S kc ks Q) : awV b E M pc lv (.ref (nm f i) :: st) S kc ks Q := by
  refine awV.step awUp_rf (Nat.le_refl _) (Nat.le_refl _) (fun p e R s m args below meth c0 H locs ad ls Z hC wf hR hlo hls _ _ _ _ kk => ?_) k
  exact va_castS hC.1 hC.2.1 hC.2.2.2.2.2.1 (hC.2.2.2.2.2.2.1 _ hw) (hC.2.2.2.2.2.2.2.1.1.1 c _ (oCl_at c hc)).2 (awR_recv hC.2.2.2.2.2.2.2.1 hR hf hc wf.top) hd (kk H locs ad ls awAg_rf wf hR hlo hls)
theorem av_slen (hd : decode (awM_c M) pc = .ok (.arraylength, 1)) (k : awV b E M (pc + 1) lv (.int (nI (awE_n E)) :: st) S kc ks Q) : awV b E M pc lv (.ref nmS :: st) S kc ks Q := by
  refine awV.step awUp_rf (Nat.le_refl _) (Nat.le_refl _) (fun p e R s m args below meth c0 H locs ad ls Z hC wf hR hlo hls _ _ _ _ kk => ?_) k
  have hw := awR_low hR
  have k2 := kk H locs ad ls awAg_rf (wf.pop.pi (x := nI (awE_n E))) hR hlo hls
  show W _ _ _ _ _ _ _ _ _ _ _ _ _ _ _ (F0 m pc ls (.ref (ad nmS) :: _))
  rw [hw.2.2.2.1]
  obtain ⟨scr, h1, h2, h3, h4, h5⟩ := hC.2.2.2.2.2.2.2.1.2.2.2.1
  exact W.alen (n := nI (awE_n E)) hC.1 hC.2.1 (by rw [hw.1 _ hw.2.2.2.2.2.2.1]; exact h1) h2 (by rw [h4]; rfl) rfl rfl hd k2
theorem av_sld {x : Int32} (hd : decode (awM_c M) pc = .ok (.iaload, 1)) (hin : vp_in x (awE_n E)) (k : awV b E M (pc + 1) lv (.int (awE_x E x.toNatClampNeg) :: st) S kc ks Q) : awV b E M pc lv (.int x :: .ref nmS :: st) S kc ks Q := by
  refine awV.step awUp_rf (Nat.le_refl _) (Nat.le_refl _) (fun p e R s m args below meth c0 H locs ad ls Z hC wf hR hlo hls _ _ _ _ kk => ?_) k
  have hw := awR_low hR
  have k2 := kk H locs ad ls awAg_rf (wf.pop.pop.pi (x := awE_x E x.toNatClampNeg)) hR hlo hls
  show W _ _ _ _ _ _ _ _ _ _ _ _ _ _ _ (F0 m pc ls (.int x :: .ref (ad nmS) :: _))
  rw [hw.2.2.2.1]
  obtain ⟨scr, h1, h2, h3, h4, h5⟩ := hC.2.2.2.2.2.2.2.1.2.2.2.1
  have hlt : x.toNatClampNeg < awE_n E := Nat.not_le.mp fun q => hin (Or.inr q)
  exact W.iald hC.1 hC.2.1 (by rw [hw.1 _ hw.2.2.2.2.2.2.1]; exact h1) h2 h3 (by rw [h4]; exact hin) (h5 _ hlt) rfl rfl hd k2
theorem av_elen (hd : decode (awM_c M) pc = .ok (.arraylength, 1)) (k : awV b E M (pc + 1) lv (.int 0 :: st) S kc ks Q) : awV b E M pc lv (.ref nmE :: st) S kc ks Q := by
  refine awV.step awUp_rf (Nat.le_refl _) (Nat.le_refl _) (fun p e R s m args below meth c0 H locs ad ls Z hC wf hR hlo hls _ _ _ _ kk => ?_) k
  have hw := awR_low hR
  have k2 := kk H locs ad ls awAg_rf (wf.pop.pi (x := 0)) hR hlo hls
  show W _ _ _ _ _ _ _ _ _ _ _ _ _ _ _ (F0 m pc ls (.ref (ad nmE) :: _))
  rw [hw.2.2.1]
  obtain ⟨cell, h1, h2, h3, h4, h5, h6, h7⟩ := hC.2.2.2.2.2.2.2.1.2.2.1
  exact W.alen (n := 0) hC.1 hC.2.1 (by rw [hw.1 _ hw.2.2.2.2.2.1]; exact h1) h2 h5 rfl rfl hd k2
theorem av_getE {idx : Nat} (hd : decode (awM_c M) pc = .ok (.getstatic idx, 3)) (hw : Cond.fieldLink (awM_y M).cls idx "java/util/ArrayList" "DEFAULTCAPACITY_EMPTY_ELEMENTDATA" "[Ljava/lang/Object;" ∈ awBig) (k : awV b E M (pc + 3) lv (.ref nmE :: st) S kc ks Q) : awV b E M pc lv st S kc ks Q := by
  refine awV.step awUp_rf (Nat.le_refl _) (Nat.le_refl _) (fun p e R s m args below meth c0 H locs ad ls Z hC wf hR hlo hls _ _ _ _ kk => ?_) k
  have hl := awR_low hR
  have k2 := kk H locs ad ls awAg_rf (wf.push (v := .ref nmE) hl.2.2.2.2.2.2.2.1) hR hlo hls
  rw [List.map_cons, show rnv ad (.ref nmE) = .ref (awE_e E) from congrArg Value.ref hl.2.2.1] at k2
  obtain ⟨cf, kf, fi, f, a, cell, h1, h2, h3, h4, h5, h6, h7, h8⟩ := hC.2.2.2.2.2.2.2.1.2.1
  have ha : a < awE_lo E := Nat.lt_of_not_le h8
  exact W.gets hC.1 hC.2.1 hC.2.2.2.2.2.1 (hC.2.2.2.2.2.2.1 _ hw) h1 h2 h3 h4 (by rw [hl.1 a ha]; exact h5) (fun e => by rw [e] at h6; cases h6) h7 rfl hd k2
theorem av_ldcC {idx : Nat} (hd : decode (awM_c M) pc = .ok (.ldc idx, 2)) (hw : Cond.classLink (awM_y M).cls idx "[Ljava/lang/Object;" ∈ awBig) (k : awV b E M (pc + 2) lv (.ref nmC :: st) S kc ks Q) : awV b E M pc lv st S kc ks Q := by
  refine awV.step awUp_rf (Nat.le_refl _) (Nat.le_refl _) (fun p e R s m args below meth c0 H locs ad ls Z hC wf hR hlo hls _ _ _ _ kk => ?_) k
  have hl := awR_low hR
  have k2 := kk H locs ad ls awAg_rf (wf.push (v := .ref nmC) hl.2.2.2.2.2.2.2.2.2) hR hlo hls
  rw [List.map_cons, show rnv ad (.ref nmC) = .ref (awE_c E) from congrArg Value.ref hl.2.2.2.2.1] at k2
  exact va_ldcM hC.1 hC.2.1 hC.2.2.2.2.2.1 (hC.2.2.2.2.2.2.1 _ hw) hC.2.2.2.2.2.2.2.1.2.2.2.2.2.2.2.2.1 hd k2
theorem av_newA {idx f n : Nat} {x : Int32} (hd : decode (awM_c M) pc = .ok (.anewarray idx, 3)) (hw : Cond.classLink (awM_y M).cls idx "AlarmTower$Watch" ∈ awBig) (hf : fK f = 24) (hb : nb b f = true) (hx : ¬ x < 0) (hn : x.toNatClampNeg = n) (hs : n * 8 ≤ 536870912) (kk : awV b E M (pc + 3) lv (.ref (nm f (sC S f)) :: st) (wNew S f n) (kc + 1) (ks + n) Q) : awV b E M pc lv (.int x :: st) S kc ks Q := by
  have hff := fK_row (f := f) (by rw [hf]; decide)
  subst hn
  refine awV.step (fun m hm => (lvN_new hff.2).mpr (Or.inl hm)) (Nat.le_add_right _ _) (Nat.le_add_right _ _) (fun p e R s m args below meth c0 H locs ad ls Z hC wf hR hlo hls _ _ hcc hss kk => ?_) kk
  refine W.anew hC.1 hC.2.1 hC.2.2.2.2.2.1 (hC.2.2.2.2.2.2.1 _ hw) (va_AO.use hC.2.2.2.2.2.2.2.1.2.2.2.2.2.2.2.1.1) rfl hd rfl hx (Nat.le_trans (Nat.mul_le_mul_left _ (by decide)) hs) hcc hss fun cA kA comp f1 f2 f3 f4 => ?_
  obtain ⟨-, -, -, -, -, g4⟩ := (hC.2.2.2.2.2.2.2.1.1.2 4 _ rfl).2
  have hcA : cA = awE_A E 4 := Option.some.inj (f1.symm.trans g4)
  subst hcA
  generalize hH1 : H.push ({ cls := awE_A E 4, slots := Array.replicate x.toNatClampNeg .null, vm := .none } : Cell) = H1
  have z1 : H1.size = H.size + 1 := by rw [← hH1, Array.size_push]
  have e1 : H1[H.size]? = some (arrV (awE_A E 4) x.toNatClampNeg (fun _ => .null)) := by rw [← hH1, Array.getElem?_push_size, ← arrV_new]
  have o1 : ∀ q : Nat, q < H.size → H1[q]? = H[q]? := fun q hq => by rw [← hH1, Array.getElem?_push, if_neg (Nat.ne_of_lt hq)]
  have hag : awAg S ad (adN ad (nm f (sC S f)) H.size) := awAg_new hff.2
  have up : ∀ v, lvV S v → lvV (wNew S f x.toNatClampNeg) v := fun v h => h.up (fun m hm => (lvN_new hff.2).mpr (Or.inl hm))
  have k2 := kk H1 locs (adN ad (nm f (sC S f)) H.size) ls hag ⟨fun q hq => up _ (wf.1 q hq), fun v hv => (List.mem_cons.mp hv).elim (fun e => by rw [e]; exact (lvN_new hff.2).mpr (Or.inr rfl)) (fun h => up _ (wf.pop.2 v h))⟩ (awR_new hR hff.1 hff.2 hb z1 o1 ?_) hlo (by rw [lvm_ag hag wf.1]; exact hls)
  · rw [List.map_cons, st_ag hag wf.pop.2] at k2
    have e0 : rnv (adN ad (nm f (sC S f)) H.size) (.ref (nm f (sC S f))) = .ref H.size := congrArg Value.ref (if_pos rfl)
    rw [e0] at k2
    exact k2
  · rw [awCell_A hf]
    show H1[H.size]? = some (vp_cell _ _)
    rw [e1, vp_cell_q, sN_wN, if_pos ⟨rfl, rfl⟩]
    congr 2
    funext j
    rw [sR_wN, if_pos ⟨rfl, rfl⟩]
    rfl
theorem av_newD {idx f n : Nat} {x : Int32} (hd : decode (awM_c M) pc = .ok (.anewarray idx, 3)) (hw : Cond.classLink (awM_y M).cls idx "AlarmTower$Board" ∈ awBig) (hf : fK f = 26) (hb : nb b f = true) (hx : ¬ x < 0) (hn : x.toNatClampNeg = n) (hs : n * 8 ≤ 536870912) (kk : awV b E M (pc + 3) lv (.ref (nm f (sC S f)) :: st) (wNew S f n) (kc + 1) (ks + n) Q) : awV b E M pc lv (.int x :: st) S kc ks Q := by
  have hff := fK_row (f := f) (by rw [hf]; decide)
  subst hn
  refine awV.step (fun m hm => (lvN_new hff.2).mpr (Or.inl hm)) (Nat.le_add_right _ _) (Nat.le_add_right _ _) (fun p e R s m args below meth c0 H locs ad ls Z hC wf hR hlo hls _ _ hcc hss kk => ?_) kk
  refine W.anew hC.1 hC.2.1 hC.2.2.2.2.2.1 (hC.2.2.2.2.2.2.1 _ hw) (va_AO.use hC.2.2.2.2.2.2.2.1.2.2.2.2.2.2.2.1.2) rfl hd rfl hx (Nat.le_trans (Nat.mul_le_mul_left _ (by decide)) hs) hcc hss fun cA kA comp f1 f2 f3 f4 => ?_
  obtain ⟨-, -, -, -, -, g4⟩ := (hC.2.2.2.2.2.2.2.1.1.2 6 _ rfl).2
  have hcA : cA = awE_A E 6 := Option.some.inj (f1.symm.trans g4)
  subst hcA
  generalize hH1 : H.push ({ cls := awE_A E 6, slots := Array.replicate x.toNatClampNeg .null, vm := .none } : Cell) = H1
  have z1 : H1.size = H.size + 1 := by rw [← hH1, Array.size_push]
  have e1 : H1[H.size]? = some (arrV (awE_A E 6) x.toNatClampNeg (fun _ => .null)) := by rw [← hH1, Array.getElem?_push_size, ← arrV_new]
  have o1 : ∀ q : Nat, q < H.size → H1[q]? = H[q]? := fun q hq => by rw [← hH1, Array.getElem?_push, if_neg (Nat.ne_of_lt hq)]
  have hag : awAg S ad (adN ad (nm f (sC S f)) H.size) := awAg_new hff.2
  have up : ∀ v, lvV S v → lvV (wNew S f x.toNatClampNeg) v := fun v h => h.up (fun m hm => (lvN_new hff.2).mpr (Or.inl hm))
  have k2 := kk H1 locs (adN ad (nm f (sC S f)) H.size) ls hag ⟨fun q hq => up _ (wf.1 q hq), fun v hv => (List.mem_cons.mp hv).elim (fun e => by rw [e]; exact (lvN_new hff.2).mpr (Or.inr rfl)) (fun h => up _ (wf.pop.2 v h))⟩ (awR_new hR hff.1 hff.2 hb z1 o1 ?_) hlo (by rw [lvm_ag hag wf.1]; exact hls)
  · rw [List.map_cons, st_ag hag wf.pop.2] at k2
    have e0 : rnv (adN ad (nm f (sC S f)) H.size) (.ref (nm f (sC S f))) = .ref H.size := congrArg Value.ref (if_pos rfl)
    rw [e0] at k2
    exact k2
  · rw [awCell_D hf]
    show H1[H.size]? = some (vp_cell _ _)
    rw [e1, vp_cell_q, sN_wN, if_pos ⟨rfl, rfl⟩]
    congr 2
    funext j
    rw [sR_wN, if_pos ⟨rfl, rfl⟩]
    rfl
theorem av_newO {idx f n : Nat} {x : Int32} (hd : decode (awM_c M) pc = .ok (.anewarray idx, 3)) (hw : Cond.classLink (awM_y M).cls idx "java/lang/Object" ∈ awBig) (hf : fK f = 25) (hb : nb b f = true) (hx : ¬ x < 0) (hn : x.toNatClampNeg = n) (hs : n * 8 ≤ 536870912) (kk : awV b E M (pc + 3) lv (.ref (nm f (sC S f)) :: st) (wNew S f n) (kc + 1) (ks + n) Q) : awV b E M pc lv (.int x :: st) S kc ks Q := by
  have hff := fK_row (f := f) (by rw [hf]; decide)
  subst hn
  refine awV.step (fun m hm => (lvN_new hff.2).mpr (Or.inl hm)) (Nat.le_add_right _ _) (Nat.le_add_right _ _) (fun p e R s m args below meth c0 H locs ad ls Z hC wf hR hlo hls _ _ hcc hss kk => ?_) kk
  refine W.anew hC.1 hC.2.1 hC.2.2.2.2.2.1 (hC.2.2.2.2.2.2.1 _ hw) (va_AO.use hC.2.2.2.2.2.2.2.1.2.2.2.2.2.2.1) rfl hd rfl hx (Nat.le_trans (Nat.mul_le_mul_left _ (by decide)) hs) hcc hss fun cA kA comp f1 f2 f3 f4 => ?_
  obtain ⟨-, -, -, -, -, g4⟩ := (hC.2.2.2.2.2.2.2.1.1.2 5 _ rfl).2
  have hcA : cA = awE_A E 5 := Option.some.inj (f1.symm.trans g4)
  subst hcA
  generalize hH1 : H.push ({ cls := awE_A E 5, slots := Array.replicate x.toNatClampNeg .null, vm := .none } : Cell) = H1
  have z1 : H1.size = H.size + 1 := by rw [← hH1, Array.size_push]
  have e1 : H1[H.size]? = some (arrV (awE_A E 5) x.toNatClampNeg (fun _ => .null)) := by rw [← hH1, Array.getElem?_push_size, ← arrV_new]
  have o1 : ∀ q : Nat, q < H.size → H1[q]? = H[q]? := fun q hq => by rw [← hH1, Array.getElem?_push, if_neg (Nat.ne_of_lt hq)]
  have hag : awAg S ad (adN ad (nm f (sC S f)) H.size) := awAg_new hff.2
  have up : ∀ v, lvV S v → lvV (wNew S f x.toNatClampNeg) v := fun v h => h.up (fun m hm => (lvN_new hff.2).mpr (Or.inl hm))
  have k2 := kk H1 locs (adN ad (nm f (sC S f)) H.size) ls hag ⟨fun q hq => up _ (wf.1 q hq), fun v hv => (List.mem_cons.mp hv).elim (fun e => by rw [e]; exact (lvN_new hff.2).mpr (Or.inr rfl)) (fun h => up _ (wf.pop.2 v h))⟩ (awR_new hR hff.1 hff.2 hb z1 o1 ?_) hlo (by rw [lvm_ag hag wf.1]; exact hls)
  · rw [List.map_cons, st_ag hag wf.pop.2] at k2
    have e0 : rnv (adN ad (nm f (sC S f)) H.size) (.ref (nm f (sC S f))) = .ref H.size := congrArg Value.ref (if_pos rfl)
    rw [e0] at k2
    exact k2
  · rw [awCell_O hf]
    show H1[H.size]? = some (vp_cell _ _)
    rw [e1, vp_cell_q, sN_wN, if_pos ⟨rfl, rfl⟩]
    congr 2
    funext j
    rw [sR_wN, if_pos ⟨rfl, rfl⟩]
    rfl
theorem av_aast {f i g j : Nat} {x : Int32} (hd : decode (awM_c M) pc = .ok (.aastore, 1)) (hf : fK f = 24) (hb : nb b f = true) (hq : fK g = 11) (hin : vp_in x (sN S f i)) (kk : awV b E M (pc + 1) lv st (wR S f i x.toNatClampNeg (some (nm g j))) kc ks Q) : awV b E M pc lv (.ref (nm g j) :: .int x :: .ref (nm f i) :: st) S kc ks Q := by
  refine awV.step (S1 := wR S f i x.toNatClampNeg (some (nm g j))) (fun n h => h) (Nat.le_refl _) (Nat.le_refl _) (fun p e R s m args below meth c0 H locs ad ls Z hC wf hR hlo hls _ _ _ _ kk => ?_) kk
  have hff := fK_row (by rw [hf]; decide)
  have hl : lvN S (nm f i) := wf.pop.pop.top
  have hlv : lvN S (nm g j) := wf.top
  obtain ⟨hlo1, hat⟩ := awR_at hR hff.1 hff.2 hb hl
  rw [awCell_A hf] at hat
  have hlt : x.toNatClampNeg < sN S f i := Nat.not_le.mp fun q => hin (Or.inr q)
  have h0 : ¬ x < 0 := fun q => hin (Or.inl q)
  have hcls := (hC.2.2.2.2.2.2.2.1.1.1 11 _ rfl).2
  obtain ⟨kA, comp, k1, k2, k3, -⟩ := (hC.2.2.2.2.2.2.2.1.1.2 4 _ rfl).2
  have hcomp : comp = (awE_D E).1 11 := Option.some.inj (k3.symm.trans hcls.1)
  subst hcomp
  obtain ⟨kC, hkC, -⟩ := hcls.2
  obtain ⟨cellV, g1, g2, g3⟩ := awR_recv (c := 11) hC.2.2.2.2.2.2.2.1 hR hq (by decide) hlv
  have g4 : cellV.cls = (awE_D E).1 11 := Option.some.inj (g3.symm.trans hcls.1)
  have hasg : s.vm.assignable cellV.cls ((awE_D E).1 11) = true := by rw [g4]; exact va_assign hcls
  have hkv : s.vm.classes[cellV.cls]? = some kC := by rw [g4]; exact hkC
  have hkcomp : s.vm.classes[(awE_D E).1 11]? = some kC := hkC
  refine W.aast hC.1 hC.2.1 hat (fun q h => by cases h) (fun h => by cases h) k1 k2 rfl hkcomp ⟨h0, by show _ < (arrV _ _ _).slots.size; rw [arrV_size]; exact hlt⟩ g1 (fun q h => by rw [h] at g2; cases g2) hkv hasg rfl rfl hd fun H1 e z oq => ?_
  refine kk H1 _ ad ls awAg_rf wf.pop.pop.pop (awR_wR hR hff.1 hff.2 hb hl (fun r e => by cases e; exact hlv) ?_ z oq) (fun q hq => ?_) hls
  · rw [awCell_A hf]
    show H1[ad (nm f i)]? = some (vp_cell _ _)
    rw [e]
    rw [vp_cell_q, vp_cell_q, arrV_store]
    congr 2
    funext q
    show _ = va_rf ((sR (wR S f i x.toNatClampNeg (some (nm g j))) f i q).map ad)
    rw [sR_wR]
    by_cases hq : q = x.toNatClampNeg
    · subst hq
      rw [if_pos ⟨rfl, rfl, rfl⟩]
      unfold updV
      rw [if_pos rfl]
      rfl
    · rw [if_neg (fun z => hq z.2.2)]
      unfold updV
      rw [if_neg hq]
  · rcases List.mem_append.mp hq with h | h
    · exact hlo q h
    · rw [List.mem_singleton.mp h]; exact hlo1
theorem av_dast {f i g j : Nat} {x : Int32} (hd : decode (awM_c M) pc = .ok (.aastore, 1)) (hf : fK f = 26) (hb : nb b f = true) (hq : fK g = 2) (hin : vp_in x (sN S f i)) (kk : awV b E M (pc + 1) lv st (wR S f i x.toNatClampNeg (some (nm g j))) kc ks Q) : awV b E M pc lv (.ref (nm g j) :: .int x :: .ref (nm f i) :: st) S kc ks Q := by
  refine awV.step (S1 := wR S f i x.toNatClampNeg (some (nm g j))) (fun n h => h) (Nat.le_refl _) (Nat.le_refl _) (fun p e R s m args below meth c0 H locs ad ls Z hC wf hR hlo hls _ _ _ _ kk => ?_) kk
  have hff := fK_row (by rw [hf]; decide)
  have hl : lvN S (nm f i) := wf.pop.pop.top
  have hlv : lvN S (nm g j) := wf.top
  obtain ⟨hlo1, hat⟩ := awR_at hR hff.1 hff.2 hb hl
  rw [awCell_D hf] at hat
  have hlt : x.toNatClampNeg < sN S f i := Nat.not_le.mp fun q => hin (Or.inr q)
  have h0 : ¬ x < 0 := fun q => hin (Or.inl q)
  have hcls := (hC.2.2.2.2.2.2.2.1.1.1 2 _ rfl).2
  obtain ⟨kA, comp, k1, k2, k3, -⟩ := (hC.2.2.2.2.2.2.2.1.1.2 6 _ rfl).2
  have hcomp : comp = (awE_D E).1 2 := Option.some.inj (k3.symm.trans hcls.1)
  subst hcomp
  obtain ⟨kC, hkC, -⟩ := hcls.2
  obtain ⟨cellV, g1, g2, g3⟩ := awR_recv (c := 2) hC.2.2.2.2.2.2.2.1 hR hq (by decide) hlv
  have g4 : cellV.cls = (awE_D E).1 2 := Option.some.inj (g3.symm.trans hcls.1)
  have hasg : s.vm.assignable cellV.cls ((awE_D E).1 2) = true := by rw [g4]; exact va_assign hcls
  have hkv : s.vm.classes[cellV.cls]? = some kC := by rw [g4]; exact hkC
  have hkcomp : s.vm.classes[(awE_D E).1 2]? = some kC := hkC
  refine W.aast hC.1 hC.2.1 hat (fun q h => by cases h) (fun h => by cases h) k1 k2 rfl hkcomp ⟨h0, by show _ < (arrV _ _ _).slots.size; rw [arrV_size]; exact hlt⟩ g1 (fun q h => by rw [h] at g2; cases g2) hkv hasg rfl rfl hd fun H1 e z oq => ?_
  refine kk H1 _ ad ls awAg_rf wf.pop.pop.pop (awR_wR hR hff.1 hff.2 hb hl (fun r e => by cases e; exact hlv) ?_ z oq) (fun q hq => ?_) hls
  · rw [awCell_D hf]
    show H1[ad (nm f i)]? = some (vp_cell _ _)
    rw [e]
    rw [vp_cell_q, vp_cell_q, arrV_store]
    congr 2
    funext q
    show _ = va_rf ((sR (wR S f i x.toNatClampNeg (some (nm g j))) f i q).map ad)
    rw [sR_wR]
    by_cases hq : q = x.toNatClampNeg
    · subst hq
      rw [if_pos ⟨rfl, rfl, rfl⟩]
      unfold updV
      rw [if_pos rfl]
      rfl
    · rw [if_neg (fun z => hq z.2.2)]
      unfold updV
      rw [if_neg hq]
  · rcases List.mem_append.mp hq with h | h
    · exact hlo q h
    · rw [List.mem_singleton.mp h]; exact hlo1
theorem av_oast {f i g j : Nat} {x : Int32} (hd : decode (awM_c M) pc = .ok (.aastore, 1)) (hf : fK f = 25) (hb : nb b f = true) {c : Nat} (hq : fK g = c) (hc : c < 14) (hin : vp_in x (sN S f i)) (kk : awV b E M (pc + 1) lv st (wR S f i x.toNatClampNeg (some (nm g j))) kc ks Q) : awV b E M pc lv (.ref (nm g j) :: .int x :: .ref (nm f i) :: st) S kc ks Q := by
  refine awV.step (S1 := wR S f i x.toNatClampNeg (some (nm g j))) (fun n h => h) (Nat.le_refl _) (Nat.le_refl _) (fun p e R s m args below meth c0 H locs ad ls Z hC wf hR hlo hls _ _ _ _ kk => ?_) kk
  have hff := fK_row (by rw [hf]; decide)
  have hl : lvN S (nm f i) := wf.pop.pop.top
  have hlv : lvN S (nm g j) := wf.top
  obtain ⟨hlo1, hat⟩ := awR_at hR hff.1 hff.2 hb hl
  rw [awCell_O hf] at hat
  have hlt : x.toNatClampNeg < sN S f i := Nat.not_le.mp fun q => hin (Or.inr q)
  have h0 : ¬ x < 0 := fun q => hin (Or.inl q)
  obtain ⟨kA, comp, k1, k2, k3, -⟩ := (hC.2.2.2.2.2.2.2.1.1.2 5 _ rfl).2
  obtain ⟨cellV, g1, g2, g3⟩ := awR_recv (c := c) hC.2.2.2.2.2.2.2.1 hR hq hc hlv
  obtain ⟨c0', t0', f1, f2, hasg⟩ := Cond.castable_spec (va_Nw.use (A := args) rfl (hC.2.2.2.2.2.2.2.1.2.2.2.2.1 _ (awCst_o c hc)))
  cases f1.symm.trans g3
  cases f2.symm.trans k3
  obtain ⟨kv, hkv, -⟩ := Vm.findClass_spec g3
  obtain ⟨kcomp, hkcomp, -⟩ := Vm.findClass_spec k3
  refine W.aast hC.1 hC.2.1 hat (fun q h => by cases h) (fun h => by cases h) k1 k2 rfl hkcomp ⟨h0, by show _ < (arrV _ _ _).slots.size; rw [arrV_size]; exact hlt⟩ g1 (fun q h => by rw [h] at g2; cases g2) hkv hasg rfl rfl hd fun H1 e z oq => ?_
  refine kk H1 _ ad ls awAg_rf wf.pop.pop.pop (awR_wR hR hff.1 hff.2 hb hl (fun r e => by cases e; exact hlv) ?_ z oq) (fun q hq => ?_) hls
  · rw [awCell_O hf]
    show H1[ad (nm f i)]? = some (vp_cell _ _)
    rw [e]
    rw [vp_cell_q, vp_cell_q, arrV_store]
    congr 2
    funext q
    show _ = va_rf ((sR (wR S f i x.toNatClampNeg (some (nm g j))) f i q).map ad)
    rw [sR_wR]
    by_cases hq : q = x.toNatClampNeg
    · subst hq
      rw [if_pos ⟨rfl, rfl, rfl⟩]
      unfold updV
      rw [if_pos rfl]
      rfl
    · rw [if_neg (fun z => hq z.2.2)]
      unfold updV
      rw [if_neg hq]
  · rcases List.mem_append.mp hq with h | h
    · exact hlo q h
    · rw [List.mem_singleton.mp h]; exact hlo1
end MORE

