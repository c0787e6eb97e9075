-- ends of a method, its entry, calls
section ENDS
variable {b : Bool} {E : awE} {M : awM} {pc : Nat} {lv lv' : List (Nat × Value)} {st : List Value} {S : awS} {kc ks : Nat} {Q : Option Value → awS → Nat → Nat → Prop}
theorem ax_iret {x : Int32} {ty : FieldType} (hd : decode (awM_c M) pc = .ok (.ireturn, 1)) (hr : awM_r M = some ty) (hn : narrow ty (.int x) = .int x) (h : Q (some (.int x)) S kc ks) : awX b E M pc lv [.int x] S kc ks Q :=
  ⟨some (.int x), S, kc, ks, h, Nat.le_refl _, Nat.le_refl _, awUp_rf, fun p e R s m args below meth c hC _ _ _ _ Qc H locs ad ls wf hR hlo hls hq => W.zret hC.1 hC.2.1 (hC.2.2.1.trans hr) hn (fun t ht _ => hq ad t awAg_rf (by rw [ht]; exact hR) (fun v hv => by cases hv; exact trivial)) hlo hd hC.2.2.2.1⟩
theorem ax_lret {x : Int64} (hd : decode (awM_c M) pc = .ok (.lreturn, 1)) (hr : awM_r M = some .long) (h : Q (some (.long x)) S kc ks) : awX b E M pc lv [.long x] S kc ks Q :=
  ⟨some (.long x), S, kc, ks, h, Nat.le_refl _, Nat.le_refl _, awUp_rf, fun p e R s m args below meth c hC _ _ _ _ Qc H locs ad ls wf hR hlo hls hq => W.lret hC.1 hC.2.1 (hC.2.2.1.trans hr) (fun t ht _ => hq ad t awAg_rf (by rw [ht]; exact hR) (fun v hv => by cases hv; exact trivial)) hlo hd hC.2.2.2.1⟩
theorem ax_vret (hd : decode (awM_c M) pc = .ok (.return_, 1)) (hr : awM_r M = none) (h : Q none S kc ks) : awX b E M pc lv [] S kc ks Q :=
  ⟨none, S, kc, ks, h, Nat.le_refl _, Nat.le_refl _, awUp_rf, fun p e R s m args below meth c hC _ _ _ _ Qc H locs ad ls wf hR hlo hls hq => W.vret hC.1 hC.2.1 (hC.2.2.1.trans hr) (fun t ht _ => hq ad t awAg_rf (by rw [ht]; exact hR) (fun v hv => by cases hv)) hlo hd hC.2.2.2.1⟩
theorem ax_aret {r : Option Nat} {ty : FieldType} (hd : decode (awM_c M) pc = .ok (.areturn, 1)) (hr : awM_r M = some ty) (hty : (∃ n, ty = .object n) ∨ ∃ t, ty = .array t) (h : Q (some (va_rf r)) S kc ks) : awX b E M pc lv [va_rf r] S kc ks Q :=
  ⟨some (va_rf r), S, kc, ks, h, Nat.le_refl _, Nat.le_refl _, awUp_rf, fun p e R s m args below meth c hC _ _ _ _ Qc H locs ad ls wf hR hlo hls hq => W.aret (v := rnv ad (va_rf r)) hC.1 hC.2.1 (hC.2.2.1.trans hr) hty (by rw [rnv_rf]; cases r <;> first | exact Or.inl rfl | exact Or.inr ⟨_, rfl⟩) (fun t ht _ => hq ad t awAg_rf (by rw [ht]; exact hR) (fun v hv => by cases hv; exact wf.top)) hlo hd hC.2.2.2.1⟩
end ENDS
theorem lv_args_rn (ad : Nat → Nat) : ∀ (As : List Value) (i : Nat), lv_args i (As.map (rnv ad)) = lvm ad (lv_args i As)
  | [], _ => rfl
  | v :: vs, i => by
    rw [List.map_cons]
    unfold lv_args
    rw [rnv_cat, lv_args_rn ad vs]
    rfl
theorem lg_sl_rn (ad : Nat → Nat) : ∀ As : List Value, (lg_sl (As.map (rnv ad))).length = (lg_sl As).length
  | [] => rfl
  | v :: vs => by
    have ih := lg_sl_rn ad vs
    unfold lg_sl at ih ⊢
    rw [List.map_cons, List.flatMap_cons, List.flatMap_cons, List.length_append, List.length_append, ih, rnv_cat]
    by_cases h : v.category = 2
    · rw [if_pos h, if_pos h]; rfl
    · rw [if_neg h, if_neg h]; rfl
theorem lv_args_lv {S : awS} : ∀ {As : List Value} {i : Nat}, (∀ v ∈ As, lvV S v) → ∀ q ∈ lv_args i As, lvV S q.2
  | [], _, _, q, hq => by cases hq
  | v :: vs, i, h, q, hq => by
    unfold lv_args at hq
    rcases List.mem_cons.mp hq with e | e
    · rw [e]; exact h v List.mem_cons_self
    · exact lv_args_lv (fun v hv => h v (List.mem_cons_of_mem _ hv)) q e
/-- a method's contract out of its body's walk -/
theorem awT.of {b : Bool} {E : awE} {M : awM} {As : List Value} {S : awS} {Q : Option Value → awS → Nat → Nat → Prop} (hy : plainName (awM_y M).cls = true) (hi : awM_i M = decide ((awM_y M).name = "<init>")) (hn : (lg_sl As).length ≤ awM_n M)
    (k : awX b E M 0 (lv_args 0 As) [] S 0 0 Q) : awT b E M As S Q := by
  obtain ⟨r, S', mc, ms, hQ, -, -, hu, hk⟩ := k
  refine ⟨r, S', mc, ms, hQ, hu, fun ad hlive => ?_⟩
  refine Met.ofW (cc := awM_c M) (maxL := awM_n M) (ret := awM_r M) hy rfl ?_
  intro p e s m args below meth c s₁ B hml hv
  obtain ⟨rfl, hR, hK⟩ := hv
  have hts := atoms_spec (ws := Cond.code (awM_y M) (awM_c M) (awM_n M) (awM_r M) :: awBig) B.pre
  have hlo : (∀ q, q < awE_lo E → s.heap[q]? = (awE_H E)[q]?) ∧ awE_lo E ≤ s.heap.size := by
    cases b with
    | false => exact ⟨hR.1, hR.2.1⟩
    | true => obtain ⟨S0, -, h0⟩ := hR; exact ⟨h0.1, h0.2.1⟩
  have hC : awC E M p s m ((As.map (rnv ad)).toArray) meth c := ⟨B.exec, B.bytes, B.returns, B.notSynchronized, hml, findClass_of_methodNamed B.named, fun w hw => hts w (List.mem_cons_of_mem _ hw), hK, fun h => by
    rw [(name_of_methodNamed B.named B.method).1]
    exact of_decide_eq_true (hi.symm.trans h), hlo.1, hlo.2⟩
  have hl := lv_entry (As.map (rnv ad)) (n := awM_n M) (by rw [lg_sl_rn]; exact hn)
  rw [lg_entry_eq]
  rw [lv_args_rn] at hl
  exact hk p e _ s m _ below meth c hC (Nat.le_refl _) (Nat.le_refl _) (Nat.le_refl _) (Nat.le_refl _) _ s.heap [] ad _ ⟨lv_args_lv hlive, fun v hv => by cases hv⟩ hR (fun q hq => by cases hq) hl (fun ad' t g1 g2 g3 => ⟨ad', g1, rfl, g2, g3⟩)
theorem aw_cont {b : Bool} {E : awE} {M : awM} {S S1 : awS} {lv : List (Nat × Value)} {st : List Value} {r : Option Value} {p : Program} {e : Env} {R : Room} {s : State} {m : MethodId} {args : Array Value} {below : List Frame} {meth : Method} {c : Code} {H : Heap} {locs : List Loc} {ad : Nat → Nat} {ls : Array Slot} {Z : State → Prop} {kc ks mc1 ms1 pc : Nat} {stk : List Value}
    (hr : va_Run p (awE_l E) e R s m args below meth c H locs kc ks mc1 ms1 (F0 m pc ls stk) (st.map (rnv ad)) (fun _ o t => ∃ ad', awAg S ad ad' ∧ o = .returned (r.map (rnv ad')) ∧ awR b E S1 ad' t.heap ∧ ∀ v, r = some v → lvV S1 v) (awLo E))
    (hwl : ∀ q ∈ lv, lvV S q.2) (hws : ∀ v ∈ st, lvV S v) (hu : awUp S S1) (hlo : ∀ q ∈ locs, awE_lo E ≤ q.base) (hls : lv_has ls (awM_n M) (lvm ad lv))
    (kk : ∀ (H' : Heap) (locs' : List Loc) (ad' : Nat → Nat) (ls' : Array Slot), awAg S ad ad' → awWf S1 lv (r.toList ++ st) → awR b E S1 ad' H' → (∀ q ∈ locs', awE_lo E ≤ q.base) → lv_has ls' (awM_n M) (lvm ad' lv) → W p (awE_l E) e R s m args below meth c H' locs' (kc + mc1) (ks + ms1) Z (F0 m (pc + 3) ls' ((r.toList ++ st).map (rnv ad')))) :
    W p (awE_l E) e R s m args below meth c H locs kc ks Z (F0 m pc ls stk) := by
  intro T hT X
  obtain ⟨v, st₀, t, T', L, h0, X', hL, e1, e2, ⟨ad', hag, hv, hR, hrl⟩, hst⟩ := hr T hT X
  cases hv
  obtain ⟨t2, a1, b1⟩ := kk T'.heap (locs ++ L) ad' ls hag ⟨fun q hq => (hwl q hq).up hu, fun v hv => by
    rcases List.mem_append.mp hv with h | h
    · cases r with
      | none => cases h
      | some w => rw [List.mem_singleton.mp h]; exact hrl w rfl
    · exact (hws v h).up hu⟩ (by rw [e1]; exact hR) (fun q hq => by
      rcases List.mem_append.mp hq with h | h
      · exact hlo q h
      · exact hL q h) (by rw [lvm_ag hag hwl]; exact hls) T' rfl X'
  refine ⟨t2, hst t2 ?_, b1⟩
  have es : (r.toList ++ st).map (rnv ad') = (r.map (rnv ad')).toList ++ st.map (rnv ad) := by
    rw [List.map_append, st_ag hag hws]
    cases r <;> rfl
  rw [es] at a1
  exact a1
def awCallB (Mc : awM) (n : Nat) : Prop := Cond.initialized (awM_y Mc).cls ∈ awBig ∧ Cond.code (awM_y Mc) (awM_c Mc) (awM_n Mc) (awM_r Mc) ∈ awBig ∧ (awM_y Mc).cls ≠ "java/lang/invoke/MethodHandle" ∧ (awM_y Mc).cls ≠ "java/lang/invoke/VarHandle" ∧ (parseMethodDescriptor (awM_y Mc).desc).map (fun d => d.parameters.length) = some n
def awRoom (M Mc : awM) : Prop := awM_f Mc + 1 ≤ awM_f M ∧ 8 + (awM_n Mc + 11) + awM_l Mc ≤ awM_l M
theorem awR_recv {b : Bool} {E : awE} {S : awS} {ad : Nat → Nat} {H : Heap} {s : State} (hK : awKs E s) (h : awR b E S ad H) {f i c : Nat} (hf : fK f = c) (hc : c < 14) (hl : lvN S (nm f i)) : ∃ cell : Cell, H[ad (nm f i)]? = some cell ∧ cell.vm.isStatics = false ∧ s.vm.findClass (oCl c).1 = some cell.cls := by
  have hff := fK_obj (by rw [hf]; exact hc)
  have key : ∀ S0, awR0 E S0 ad H → lvN S0 (nm f i) → ∃ cell : Cell, H[ad (nm f i)]? = some cell ∧ cell.vm.isStatics = false ∧ s.vm.findClass (oCl c).1 = some cell.cls := fun S0 h0 l0 => by
    have k := (h0.2.2.1 (nm f i) l0 (by rw [nm_f hff.2]; omega)).2
    rw [nm_f hff.2, nm_i hff.2, awCell_obj hf hc] at k
    exact va_recv hK.1 (va_P1 k) (oCl_at c hc) (q0 := 0) rfl
  cases b with
  | false => exact key S h hl
  | true =>
    obtain ⟨S0, hh, h0⟩ := h
    exact key S0 h0 (hh.lv hl)
theorem awPc_blind {b : Bool} {E : awE} {S : awS} {ad : Nat → Nat} {As : List Value} : FrameBlind (va_Pc (As.map (rnv ad)) (fun U => awR b E S ad U.heap ∧ awKs E U)) := fun a U g mk q => ⟨q.1, q.2.1, awKs.calling q.2.2⟩
section CALLS
variable {b : Bool} {E : awE} {M : awM} {pc : Nat} {lv lv' : List (Nat × Value)} {st stk : List Value} {S : awS} {kc ks : Nat} {Q : Option Value → awS → Nat → Nat → Prop}
theorem ax_invV {idx f i c n : Nat} {Mc : awM} {As : List Value} (hd : decode (awM_c M) pc = .ok (.invokevirtual idx, 3)) (hw : awCallB Mc n) (w1 : Cond.methodLink (awM_y M).cls idx (awM_y Mc) ∈ awBig) (w2 : Cond.instanceMethod (awM_y Mc) ∈ awBig) (w3 : Cond.selects (oCl c).1 (awM_y Mc) (awM_y Mc) ∈ awBig) (hf : fK f = c) (hc : c < 14) (hn : As.length = n) (hroom : awRoom M Mc) (hst : (st.map fun v => v.category).sum ≤ 8) (hstk : stk = As.reverse ++ .ref (nm f i) :: st)
    (k : awT b E Mc (.ref (nm f i) :: As) S (fun r S1 mc1 ms1 => awX b E M (pc + 3) lv (r.toList ++ st) S1 (kc + mc1) (ks + ms1) Q)) : awX b E M pc lv stk S kc ks Q := by
  obtain ⟨r, S1, mc1, ms1, hQ, hu, hM⟩ := k
  subst hstk
  refine awX.step hu (Nat.le_add_right _ _) (Nat.le_add_right _ _) (fun p e R s m args below meth c0 H locs ad ls Z hC wf hR hlo hls hfr hlc hcc hss kk => ?_) hQ
  have hts := hC.2.2.2.2.2.2.1
  have hlv : ∀ v ∈ Value.ref (nm f i) :: As, lvV S v := fun v hv => wf.2 v (by
    rcases List.mem_cons.mp hv with h | h
    · rw [h]; exact List.mem_append_right _ List.mem_cons_self
    · exact List.mem_append_left _ (List.mem_reverse.mpr h))
  have hst2 : ∀ v ∈ st, lvV S v := fun v hv => wf.2 v (List.mem_append_right _ (List.mem_cons_of_mem _ hv))
  refine aw_cont (va_runV (As := As.map (rnv ad)) (rest := st.map (rnv ad)) ⟨hC.1, hC.2.1, hC.2.2.2.2.1, hC.2.2.2.2.2.1, hts⟩ (hM ad hlv)
    ⟨callB_of n hts (awBig_cons hw.2.1) rfl rfl rfl (hts _ hw.1) (hts _ w1) hw.2.2 ⟨Nat.le_trans hroom.1 hfr, Nat.le_trans hroom.2 hlc⟩, hts _ w2, hts _ w3⟩
    ⟨awPc_blind, awR_recv hC.2.2.2.2.2.2.2.1 hR hf hc (hlv _ List.mem_cons_self), fun U hU hW => ⟨rfl, by rw [hU]; exact hR, hC.2.2.2.2.2.2.2.1.moved hW⟩⟩ rfl (by rw [List.length_map]; exact hn) hls.1 (by rw [List.map_append, List.map_reverse]; rfl) (lv_room (by rw [List.map_map]; simp only [Function.comp_def, rnv_cat]; exact hst)) hd ⟨hcc, hss⟩) wf.1 hst2 hu hlo hls kk
theorem ax_invS {idx n : Nat} {Mc : awM} {As : List Value} (hd : decode (awM_c M) pc = .ok (.invokestatic idx, 3)) (hw : awCallB Mc n) (w1 : Cond.methodLink (awM_y M).cls idx (awM_y Mc) ∈ awBig) (w2 : Cond.static (awM_y Mc) ∈ awBig) (hn : As.length = n) (hroom : awRoom M Mc) (hst : (st.map fun v => v.category).sum ≤ 8) (hstk : stk = As.reverse ++ st)
    (k : awT b E Mc As S (fun r S1 mc1 ms1 => awX b E M (pc + 3) lv (r.toList ++ st) S1 (kc + mc1) (ks + ms1) Q)) : awX b E M pc lv stk S kc ks Q := by
  obtain ⟨r, S1, mc1, ms1, hQ, hu, hM⟩ := k
  subst hstk
  refine awX.step hu (Nat.le_add_right _ _) (Nat.le_add_right _ _) (fun p e R s m args below meth c0 H locs ad ls Z hC wf hR hlo hls hfr hlc hcc hss kk => ?_) hQ
  have hts := hC.2.2.2.2.2.2.1
  have hlv : ∀ v ∈ As, lvV S v := fun v hv => wf.2 v (List.mem_append_left _ (List.mem_reverse.mpr hv))
  have hst2 : ∀ v ∈ st, lvV S v := fun v hv => wf.2 v (List.mem_append_right _ hv)
  refine aw_cont (va_runS (As := As.map (rnv ad)) (rest := st.map (rnv ad)) ⟨hC.1, hC.2.1, hC.2.2.2.2.1, hC.2.2.2.2.2.1, hts⟩ (hM ad hlv)
    ⟨callB_of n hts (awBig_cons hw.2.1) rfl rfl rfl (hts _ hw.1) (hts _ w1) hw.2.2 ⟨Nat.le_trans hroom.1 hfr, Nat.le_trans hroom.2 hlc⟩, hts _ w2⟩
    ⟨awPc_blind, fun U hU hW => ⟨rfl, by rw [hU]; exact hR, hC.2.2.2.2.2.2.2.1.moved hW⟩⟩ rfl (by rw [List.length_map]; exact hn) hls.1 (by rw [List.map_append, List.map_reverse]) (lv_room (by rw [List.map_map]; simp only [Function.comp_def, rnv_cat]; exact hst)) hd ⟨hcc, hss⟩) wf.1 hst2 hu hlo hls kk
theorem ax_invI {idx n q : Nat} {Mc : awM} {As : List Value} (hd : decode (awM_c M) pc = .ok (.invokespecial idx, 3)) (hw : awCallB Mc n) (w1 : Cond.methodLink (awM_y M).cls idx (awM_y Mc) ∈ awBig) (w2 : Cond.instanceMethod (awM_y Mc) ∈ awBig) (hy1 : (awM_y Mc).name = "<init>") (hret : awM_r Mc = none) (hn : As.length = n) (hroom : awRoom M Mc) (hst : (st.map fun v => v.category).sum ≤ 8) (hstk : stk = As.reverse ++ .ref q :: st)
    (k : awT b E Mc (.ref q :: As) S (fun r S1 mc1 ms1 => awX b E M (pc + 3) lv (r.toList ++ st) S1 (kc + mc1) (ks + ms1) Q)) : awX b E M pc lv stk S kc ks Q := by
  obtain ⟨r, S1, mc1, ms1, hQ, hu, hM⟩ := k
  subst hstk
  refine awX.step hu (Nat.le_add_right _ _) (Nat.le_add_right _ _) (fun p e R s m args below meth c0 H locs ad ls Z hC wf hR hlo hls hfr hlc hcc hss kk => ?_) hQ
  have hts := hC.2.2.2.2.2.2.1
  have hlv : ∀ v ∈ Value.ref q :: As, lvV S v := fun v hv => wf.2 v (by
    rcases List.mem_cons.mp hv with h | h
    · rw [h]; exact List.mem_append_right _ List.mem_cons_self
    · exact List.mem_append_left _ (List.mem_reverse.mpr h))
  have hst2 : ∀ v ∈ st, lvV S v := fun v hv => wf.2 v (List.mem_append_right _ (List.mem_cons_of_mem _ hv))
  have hM2 := hM ad hlv
  have hcode := hw.2.1
  rw [hret] at hM2 hcode
  refine aw_cont (va_runI (b := ad q) (As := As.map (rnv ad)) (rest := st.map (rnv ad)) ⟨hC.1, hC.2.1, hC.2.2.2.2.1, hC.2.2.2.2.2.1, hts⟩ hM2
    ⟨callB_of n hts (awBig_cons hcode) rfl rfl rfl (hts _ hw.1) (hts _ w1) hw.2.2 ⟨Nat.le_trans hroom.1 hfr, Nat.le_trans hroom.2 hlc⟩, hy1, hts _ w2⟩
    ⟨awPc_blind, fun U hU hW => ⟨rfl, by rw [hU]; exact hR, hC.2.2.2.2.2.2.2.1.moved hW⟩⟩ rfl (by rw [List.length_map]; exact hn) hls.1 (by rw [List.map_append, List.map_reverse]; rfl) (lv_room (by rw [List.map_map]; simp only [Function.comp_def, rnv_cat]; exact hst)) hd ⟨hcc, hss⟩) wf.1 hst2 hu hlo hls kk
theorem ax_invIN {idx n q : Nat} {host : String} {Mc : awM} {As : List Value} (hd : decode (awM_c M) pc = .ok (.invokespecial idx, 3)) (hw : awCallB Mc n) (w1 : ((awM_y M).cls, idx, awM_y Mc, host) ∈ awNst) (w2 : Cond.instanceMethod (awM_y Mc) ∈ awBig) (hy1 : (awM_y Mc).name = "<init>") (hret : awM_r Mc = none) (hn : As.length = n) (hroom : awRoom M Mc) (hst : (st.map fun v => v.category).sum ≤ 8) (hstk : stk = As.reverse ++ .ref q :: st)
    (k : awT b E Mc (.ref q :: As) S (fun r S1 mc1 ms1 => awX b E M (pc + 3) lv (r.toList ++ st) S1 (kc + mc1) (ks + ms1) Q)) : awX b E M pc lv stk S kc ks Q := by
  obtain ⟨r, S1, mc1, ms1, hQ, hu, hM⟩ := k
  subst hstk
  refine awX.step hu (Nat.le_add_right _ _) (Nat.le_add_right _ _) (fun p e R s m args below meth c0 H locs ad ls Z hC wf hR hlo hls hfr hlc hcc hss kk => ?_) hQ
  have hts := hC.2.2.2.2.2.2.1
  have hlv : ∀ v ∈ Value.ref q :: As, lvV S v := fun v hv => wf.2 v (by
    rcases List.mem_cons.mp hv with h | h
    · rw [h]; exact List.mem_append_right _ List.mem_cons_self
    · exact List.mem_append_left _ (List.mem_reverse.mpr h))
  have hst2 : ∀ v ∈ st, lvV S v := fun v hv => wf.2 v (List.mem_append_right _ (List.mem_cons_of_mem _ hv))
  have hM2 := hM ad hlv
  have hcode := hw.2.1
  rw [hret] at hM2 hcode
  refine aw_cont (va_runIN (b := ad q) (As := As.map (rnv ad)) (rest := st.map (rnv ad)) ⟨hC.1, hC.2.1, hC.2.2.2.2.1, hC.2.2.2.2.2.1, hts⟩ hM2
    ⟨va_cnB n hts (awBig_cons hcode) rfl rfl rfl (hC.2.2.2.2.2.2.2.1.2.2.2.2.2.1 _ w1) (hts _ hw.1) hw.2.2 ⟨Nat.le_trans hroom.1 hfr, Nat.le_trans hroom.2 hlc⟩, hy1, hts _ w2⟩
    ⟨awPc_blind, fun U hU hW => ⟨rfl, by rw [hU]; exact hR, hC.2.2.2.2.2.2.2.1.moved hW⟩⟩ rfl (by rw [List.length_map]; exact hn) hls.1 (by rw [List.map_append, List.map_reverse]; rfl) (lv_room (by rw [List.map_map]; simp only [Function.comp_def, rnv_cat]; exact hst)) hd ⟨hcc, hss⟩) wf.1 hst2 hu hlo hls kk
theorem ax_invSN {idx n : Nat} {host : String} {Mc : awM} {As : List Value} (hd : decode (awM_c M) pc = .ok (.invokestatic idx, 3)) (hw : awCallB Mc n) (w1 : ((awM_y M).cls, idx, awM_y Mc, host) ∈ awNst) (w2 : Cond.static (awM_y Mc) ∈ awBig) (hn : As.length = n) (hroom : awRoom M Mc) (hst : (st.map fun v => v.category).sum ≤ 8) (hstk : stk = As.reverse ++ st)
    (k : awT b E Mc As S (fun r S1 mc1 ms1 => awX b E M (pc + 3) lv (r.toList ++ st) S1 (kc + mc1) (ks + ms1) Q)) : awX b E M pc lv stk S kc ks Q := by
  obtain ⟨r, S1, mc1, ms1, hQ, hu, hM⟩ := k
  subst hstk
  refine awX.step hu (Nat.le_add_right _ _) (Nat.le_add_right _ _) (fun p e R s m args below meth c0 H locs ad ls Z hC wf hR hlo hls hfr hlc hcc hss kk => ?_) hQ
  have hts := hC.2.2.2.2.2.2.1
  have hlv : ∀ v ∈ As, lvV S v := fun v hv => wf.2 v (List.mem_append_left _ (List.mem_reverse.mpr hv))
  have hst2 : ∀ v ∈ st, lvV S v := fun v hv => wf.2 v (List.mem_append_right _ hv)
  refine aw_cont (va_runSN (As := As.map (rnv ad)) (rest := st.map (rnv ad)) ⟨hC.1, hC.2.1, hC.2.2.2.2.1, hC.2.2.2.2.2.1, hts⟩ (hM ad hlv)
    ⟨va_cnB n hts (awBig_cons hw.2.1) rfl rfl rfl (hC.2.2.2.2.2.2.2.1.2.2.2.2.2.1 _ w1) (hts _ hw.1) hw.2.2 ⟨Nat.le_trans hroom.1 hfr, Nat.le_trans hroom.2 hlc⟩, hts _ w2, trivial⟩
    ⟨awPc_blind, fun U hU hW => ⟨rfl, by rw [hU]; exact hR, hC.2.2.2.2.2.2.2.1.moved hW⟩⟩ rfl (by rw [List.length_map]; exact hn) hls.1 (by rw [List.map_append, List.map_reverse]) (lv_room (by rw [List.map_map]; simp only [Function.comp_def, rnv_cat]; exact hst)) hd ⟨hcc, hss⟩) wf.1 hst2 hu hlo hls kk
/-- Object's own constructor -/
theorem ax_objInit {idx q : Nat} (hd : decode (awM_c M) pc = .ok (.invokespecial idx, 3)) (w1 : Cond.methodLink (awM_y M).cls idx objectInit ∈ awBig) (w2 : Cond.instanceMethod objectInit ∈ awBig) (w3 : Cond.code objectInit ⟨#[0xb1]⟩ 1 none ∈ awBig) (hroom : 1 ≤ awM_f M ∧ 20 ≤ awM_l M) (hst : (st.map fun v => v.category).sum ≤ 8)
    (k : awX b E M (pc + 3) lv st S kc ks Q) : awX b E M pc lv (.ref q :: st) S kc ks Q := by
  refine awX.step awUp_rf (Nat.le_refl _) (Nat.le_refl _) (fun p e R s m args below meth c0 H locs ad ls Z hC wf hR hlo hls hfr hlc hcc hss kk => ?_) k
  have hts := hC.2.2.2.2.2.2.1
  refine W.objInit (rest := st.map (rnv ad)) hC.1 hC.2.1 hC.2.2.2.2.2.1 (hts _ w1) (hts _ w2) (hts _ w3) rfl (by rw [hC.2.2.2.2.1]; exact hls.1) rfl hd (Nat.le_trans hroom.1 hfr) ?_ (kk H locs ad ls awAg_rf wf.pop hR hlo hls)
  have h8 := lv_room (m := m) (pc := pc) (ls := ls) (rest := .ref (ad q) :: st.map (rnv ad)) (st := st.map (rnv ad)) (by rw [List.map_map]; simp only [Function.comp_def, rnv_cat]; exact hst)
  show _ + 12 ≤ _
  have h9 := hroom.2
  exact Nat.le_trans (Nat.add_le_add_right h8 12) (Nat.le_trans h9 hlc)
end CALLS
