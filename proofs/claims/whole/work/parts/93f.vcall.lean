-- contracts of methods that throw, and their calls
def awTv (b : Bool) (E : awE) (M : awM) (w0 : Cond) (As : List Value) (S : awS) (Q : Option Value → awS → Nat → Nat → Prop) : Prop :=
  ∃ (r : Option Value) (S' : awS) (mc ms : Nat), Q r S' mc ms ∧ awUp S S' ∧
    ∀ ad : Nat → Nat, (∀ v ∈ As, lvV S v) → vx_Met (awE_l E) (awM_y M) (w0 :: awBig) { frames := awM_f M, cells := mc, slots := ms, locals := awM_l M } (va_Pc (As.map (rnv ad)) (fun U => awR b E S ad U.heap ∧ awKs E U ∧ awKx E U))
      (fun _ _ o t => xK r = none ∧ ∃ ad', awAg S ad ad' ∧ o = .returned (r.map (rnv ad')) ∧ awR b E S' ad' t.heap ∧ ∀ v, r = some v → lvV S' v) (fun X _ t => xK r = some X ∧ ∃ ad', awAg S ad ad' ∧ awR b E S' ad' t.heap) mc ms (awLo E)
abbrev awC0 (M : awM) : Cond := Cond.code (awM_y M) (awM_c M) (awM_n M) (awM_r M)
abbrev awCH (M : awM) : Cond := Cond.codeWith (awM_y M) (awM_c M) (awM_n M) (awM_r M) (awHh M)
theorem awTv.of {b : Bool} {E : awE} {M : awM} {As : List Value} {S : awS} {Q : Option Value → awS → Nat → Nat → Prop} (hy : plainName (awM_y M).cls = true) (hi : awM_i M = decide ((awM_y M).name = "<init>")) (hn : (lg_sl As).length ≤ awM_n M) (hh : awHh M = [])
    (k : awV b E M 0 (lv_args 0 As) [] S 0 0 Q) : awTv b E M (awC0 M) As S Q := by
  obtain ⟨r, S', mc, ms, hQ, -, -, hu, hk⟩ := k
  refine ⟨r, S', mc, ms, hQ, hu, fun ad hlive => ?_⟩
  refine vx_ofW (cc := awM_c M) (maxL := awM_n M) (ret := awM_r M) hy rfl ?_
  intro p e s m args below meth c s₁ B hml htab hv
  obtain ⟨rfl, hR, hK, hX⟩ := hv
  have hts := atoms_spec (ws := awC0 M :: awBig) B.pre
  have hlo := awR_lo hR
  have hC : awC E M p s m ((As.map (rnv ad)).toArray) meth c := ⟨B.exec, B.bytes, B.returns, B.notSynchronized, hml, findClass_of_methodNamed B.named, fun w hw => hts w (List.mem_cons_of_mem _ hw), hK, fun h => by
    rw [(name_of_methodNamed B.named B.method).1]
    exact of_decide_eq_true (hi.symm.trans h), hlo.1, hlo.2⟩
  have hl := lv_entry (As.map (rnv ad)) (n := awM_n M) (by rw [lg_sl_rn]; exact hn)
  rw [lg_entry_eq]
  rw [lv_args_rn] at hl
  have ht : c.exceptionTable.toList = tableOf (awHh M) := by
    rw [hh]
    exact List.eq_nil_iff_forall_not_mem.mpr (fun x hx => htab x hx)
  exact hk p e _ s m _ below meth c ⟨hC, hX, fun _ => ht⟩ (Nat.le_refl _) (Nat.le_refl _) (Nat.le_refl _) (Nat.le_refl _) _ _ s.heap [] ad _ ⟨lv_args_lv hlive, fun v hv => by cases hv⟩ hR (fun q hq => by cases hq) hl (fun ad' t g1 g2 g4 g3 => ⟨g4, ad', g1, rfl, g2, g3⟩) (fun X ad' t g4 g1 g2 => ⟨g4, ad', g1, g2⟩)
theorem awTv.ofH {b : Bool} {E : awE} {M : awM} {As : List Value} {S : awS} {Q : Option Value → awS → Nat → Nat → Prop} (hy : plainName (awM_y M).cls = true) (hi : awM_i M = decide ((awM_y M).name = "<init>")) (hn : (lg_sl As).length ≤ awM_n M)
    (k : awV b E M 0 (lv_args 0 As) [] S 0 0 Q) : awTv b E M (awCH M) As S Q := by
  obtain ⟨r, S', mc, ms, hQ, -, -, hu, hk⟩ := k
  refine ⟨r, S', mc, ms, hQ, hu, fun ad hlive => ?_⟩
  refine vx_ofWH (cc := awM_c M) (maxL := awM_n M) (ret := awM_r M) (hh := awHh M) hy rfl ?_
  intro p e s m args below meth c s₁ B hml hv
  obtain ⟨rfl, hR, hK, hX⟩ := hv
  have hts := atoms_spec (ws := awCH M :: awBig) B.pre
  have hlo := awR_lo hR
  have hC : awC E M p s m ((As.map (rnv ad)).toArray) meth c := ⟨B.exec, B.bytes, B.returns, B.notSynchronized, hml, findClass_of_methodNamed B.named, fun w hw => hts w (List.mem_cons_of_mem _ hw), hK, fun h => by
    rw [(name_of_methodNamed B.named B.method).1]
    exact of_decide_eq_true (hi.symm.trans h), hlo.1, hlo.2⟩
  have hl := lv_entry (As.map (rnv ad)) (n := awM_n M) (by rw [lg_sl_rn]; exact hn)
  rw [lg_entry_eq]
  rw [lv_args_rn] at hl
  exact hk p e _ s m _ below meth c ⟨hC, hX, fun _ => vx_table (x := awM_y M) B (hts _ List.mem_cons_self)⟩ (Nat.le_refl _) (Nat.le_refl _) (Nat.le_refl _) (Nat.le_refl _) _ _ s.heap [] ad _ ⟨lv_args_lv hlive, fun v hv => by cases hv⟩ hR (fun q hq => by cases hq) hl (fun ad' t g1 g2 g4 g3 => ⟨g4, ad', g1, rfl, g2, g3⟩) (fun X ad' t g4 g1 g2 => ⟨g4, ad', g1, g2⟩)
theorem awPv_blind {b : Bool} {E : awE} {S : awS} {ad : Nat → Nat} {As : List Value} : FrameBlind (va_Pc (As.map (rnv ad)) (fun U => awR b E S ad U.heap ∧ awKs E U ∧ awKx E U)) := fun a U g mk q => ⟨q.1, q.2.1, awKs.calling q.2.2.1, awKx.calling q.2.2.2⟩
abbrev avQ (b : Bool) (E : awE) (S : awS) (r : Option Value) (S1 : awS) (ad : Nat → Nat) : State → Outcome → State → Prop := fun _ o t => xK r = none ∧ ∃ ad', awAg S ad ad' ∧ o = .returned (r.map (rnv ad')) ∧ awR b E S1 ad' t.heap ∧ ∀ v, r = some v → lvV S1 v
abbrev avX (b : Bool) (E : awE) (S : awS) (r : Option Value) (S1 : awS) (ad : Nat → Nat) : String → State → State → Prop := fun X _ t => xK r = some X ∧ ∃ ad', awAg S ad ad' ∧ awR b E S1 ad' t.heap
/-- the handler of X, for a throw at pc, lies at h -/
def awCatch (M : awM) (pc : Nat) (X : String) (h : Nat) : Prop := ∃ (pre : List ExceptionTableEntry) (x : ExceptionTableEntry) (suf : List ExceptionTableEntry) (name : String), tableOf (awHh M) = pre ++ x :: suf ∧
  (∀ z ∈ pre, covers z pc = false ∨ (z.catchType ≠ 0 ∧ Cond.classLink (awM_y M).cls z.catchType "java/lang/IllegalArgumentException" ∈ awBig ∧ X = "java/lang/IllegalStateException")) ∧
  covers x pc = true ∧ x.catchType ≠ 0 ∧ Cond.classLink (awM_y M).cls x.catchType name ∈ awBig ∧ (X, name) ∈ awCst ∧ x.handlerPc = h
/-- behind a call that may throw -/
def avGo (b : Bool) (E : awE) (M : awM) (pc : Nat) (lv : List (Nat × Value)) (st : List Value) (r : Option Value) (S1 : awS) (kc ks : Nat) (Q : Option Value → awS → Nat → Nat → Prop) : Prop :=
  (xK r = none ∧ awV b E M (pc + 3) lv (r.toList ++ st) S1 kc ks Q) ∨ ∃ (X : String) (h j : Nat) (lv' : List (Nat × Value)), xK r = some X ∧ awCatch M pc X h ∧ decode (awM_c M) h = .ok (.astore j, 2) ∧ j < awM_n M ∧ (up1 lv j .null).tail = lv' ∧ awV b E M (h + 2) lv' [] S1 kc ks Q
theorem avGo.run {b : Bool} {E : awE} {M : awM} {pc : Nat} {lv : List (Nat × Value)} {st stk : List Value} {r : Option Value} {S S1 : awS} {kc ks mc1 ms1 : Nat} {Q : Option Value → awS → Nat → Nat → Prop} (hu : awUp S S1) (hsub : ∀ v ∈ st, v ∈ stk)
    (hr : ∀ (p : Program) (e : Env) (R : Room) (s : State) (m : MethodId) (args : Array Value) (below : List Frame) (meth : Method) (c : Code) (H : Heap) (locs : List Loc) (ad : Nat → Nat) (ls : Array Slot), awCx E M p s m args meth c → awWf S lv stk → awR b E S ad H → lv_has ls (awM_n M) (lvm ad lv) → awM_f M ≤ R.frames → awM_l M ≤ R.locals → kc + mc1 ≤ R.cells → ks + ms1 ≤ R.slots →
      vx_Run p (awE_l E) e R s m args below meth c H locs kc ks mc1 ms1 (F0 m pc ls (stk.map (rnv ad))) (st.map (rnv ad)) (avQ b E S r S1 ad) (avX b E S r S1 ad) (awLo E))
    (k : avGo b E M pc lv st r S1 (kc + mc1) (ks + ms1) Q) : awV b E M pc lv stk S kc ks Q := by
  rcases k with ⟨hn, k⟩ | ⟨X, h, j, lv', hx, hcat, hd, hj, hl, k⟩
  · obtain ⟨r2, S2, mc, ms, hQ, e1, e2, hu2, hk⟩ := k
    refine ⟨r2, S2, mc, ms, hQ, Nat.le_trans (Nat.le_add_right _ _) e1, Nat.le_trans (Nat.le_add_right _ _) e2, hu.tr hu2, fun p e R s m args below meth c hC hf hl hcc hss Qc XC H locs ad ls wf hR hlo hls hq hx T hT X => ?_⟩
    have hst2 : ∀ v ∈ st, lvV S v := fun v hv => wf.2 v (hsub v hv)
    rcases hr p e R s m args below meth c H locs ad ls hC wf hR hls hf hl (Nat.le_trans e1 hcc) (Nat.le_trans e2 hss) T hT X with ⟨v, st₀, t, T', L, h0, X', hL, g1, g2, ⟨-, ad', hag, hv, hR', hrl⟩, hst⟩ | ⟨q, st₀, t, T', L, E', ce, h0, X', hL, g1, g2, ⟨hx', -⟩, hce, hcv, hcl, hst⟩
    · cases hv
      obtain ⟨t2, a1, b1⟩ := hk p e R s m args below meth c hC hf hl hcc hss Qc XC T'.heap (locs ++ L) ad' ls ⟨fun q hq => (wf.1 q hq).up hu, fun v hv => by
        rcases List.mem_append.mp hv with h | h
        · cases r with
          | none => cases h
          | some w => rw [List.mem_singleton.mp h]; exact hrl w rfl
        · exact (hst2 v h).up hu⟩ (by rw [g1]; exact hR') (fun q hq => by
          rcases List.mem_append.mp hq with h | h
          · exact hlo q h
          · exact hL q h) (by rw [lvm_ag hag wf.1]; exact hls) (fun ad'' t z1 z2 z4 z3 => hq ad'' t (fun n hn => (z1 n (hu n hn)).trans (hag n hn)) z2 z4 z3) (fun X ad'' t z4 z1 z2 => hx X ad'' t z4 (fun n hn => (z1 n (hu n hn)).trans (hag n hn)) z2) T' rfl X'
      refine ⟨t2, hst t2 ?_, b1⟩
      have es : (r.toList ++ st).map (rnv ad') = (r.map (rnv ad')).toList ++ st.map (rnv ad) := by
        rw [List.map_append, st_ag hag hst2]
        cases r <;> rfl
      rw [es] at a1
      exact a1
    · rw [hn] at hx'
      cases hx'
  · obtain ⟨r2, S2, mc, ms, hQ, e1, e2, hu2, hk⟩ := k
    refine ⟨r2, S2, mc, ms, hQ, Nat.le_trans (Nat.le_add_right _ _) e1, Nat.le_trans (Nat.le_add_right _ _) e2, hu.tr hu2, fun p e R s m args below meth c hC hf hlc hcc hss Qc XC H locs ad ls wf hR hlo hls hq hx2 T hT X0 => ?_⟩
    rcases hr p e R s m args below meth c H locs ad ls hC wf hR hls hf hlc (Nat.le_trans e1 hcc) (Nat.le_trans e2 hss) T hT X0 with ⟨v, st₀, t, T', L, h0, X', hL, g1, g2, ⟨hn, -⟩, hst⟩ | ⟨q, st₀, t, T', L, E', ce, h0, X', hL, g1, g2, ⟨hx', ad', hag, hR'⟩, hce, hcv, hcl, hst⟩
    · rw [hx] at hn
      cases hn
    · have eX : E' = X := Option.some.inj (hx'.symm.trans hx)
      subst eX
      obtain ⟨hA, hKx, htb⟩ := hC
      have hts := hA.2.2.2.2.2.2.1
      obtain ⟨pre, x, suf, name, c1, c2, c3, c4, c5, c6, c7⟩ := hcat
      have hlo' : ∀ q ∈ locs ++ L, awE_lo E ≤ q.base := fun q hq => by
        rcases List.mem_append.mp hq with h | h
        · exact hlo q h
        · exact hL q h
      have kw : W p (awE_l E) e R s m args below meth c T'.heap (locs ++ L) (kc + mc1) (ks + ms1) (vx_MQ below Qc XC args s mc ms (awLo E)) (F0 m x.handlerPc ls [.ref q]) := by
        rw [c7]
        refine lv_astore (x := q) hA.1 hA.2.1 hd hls hj rfl (fun ls' hls' => ?_)
        refine hk p e R s m args below meth c ⟨hA, hKx, htb⟩ hf hlc hcc hss Qc XC T'.heap (locs ++ L) ad' ls' ⟨fun z hz => (wf.1 z ?_).up hu, fun v hv => by cases hv⟩ (by rw [g1]; exact hR') hlo' ?_ (fun ad'' t z1 z2 z4 z3 => hq ad'' t (fun n hn => (z1 n (hu n hn)).trans (hag n hn)) z2 z4 z3) (fun X ad'' t z4 z1 z2 => hx2 X ad'' t z4 (fun n hn => (z1 n (hu n hn)).trans (hag n hn)) z2)
        · rw [← hl] at hz
          exact (List.mem_filter.mp hz).1
        · have e3 : lvm ad' lv' = (lvm ad lv).filter (fun q => !(q.1 == j) && !(q.1 + 1 == j && q.2.category == 2)) := by
            rw [← lvm_ag hag wf.1, ← hl]
            have e4 := lvm_up1 ad' lv j .null
            exact (congrArg List.tail e4).symm
          rw [e3]
          exact ⟨hls'.1, hls'.2.1, fun z hz => hls'.2.2 z (List.mem_cons_of_mem _ hz)⟩
      obtain ⟨t2, a1, b1⟩ := vx_catch (rest := st.map (rnv ad)) (pc := pc) hA.2.2.2.2.2.1 pre x suf ((htb (fun z => by
        have e0 : awHh M = [] := by
          unfold awHh
          rw [z]
          decide +kernel
        rw [e0] at c1
        cases pre <;> cases c1)).trans c1) (fun z hz => by
        rcases c2 z hz with z1 | ⟨z1, z2, z3⟩
        · exact Or.inl z1
        · refine Or.inr ⟨z1, _, hts _ z2, ?_⟩
          rw [z3]
          exact hKx.2.2.2.2.2) c3 c4 (hts _ c5) ((hA.2.2.2.2.2.2.2.1.2.2.2.2.1 _ c6).use rfl) (by rw [g1]; exact hce) hcv hcl kw T' rfl X'
      exact ⟨t2, hst.trans a1, b1⟩
section VCALLS
variable {b : Bool} {E : awE} {M : awM} {pc : Nat} {lv : List (Nat × Value)} {st stk : List Value} {S : awS} {kc ks : Nat} {Q : Option Value → awS → Nat → Nat → Prop}
def awCallH (Mc : awM) (n : Nat) : Prop := Cond.initialized (awM_y Mc).cls ∈ awBig ∧ awCH Mc ∈ awBig ∧ (awM_y Mc).cls ≠ "java/lang/invoke/MethodHandle" ∧ (awM_y Mc).cls ≠ "java/lang/invoke/VarHandle" ∧ (parseMethodDescriptor (awM_y Mc).desc).map (fun d => d.parameters.length) = some n
theorem av_thV {idx f i cc n : Nat} {Mc : awM} {As : List Value}  (hd : decode (awM_c M) pc = .ok (.invokevirtual idx, 3)) (hw : awCallB Mc n) (w1 : Cond.methodLink (awM_y M).cls idx (awM_y Mc) ∈ awBig) (w2 : Cond.instanceMethod (awM_y Mc) ∈ awBig) (w3 : Cond.selects (oCl cc).1 (awM_y Mc) (awM_y Mc) ∈ awBig) (hf : fK f = cc) (hc : cc < 14) (hn : As.length = n) (hroom : awRoom M Mc) (hst : (st.map fun v => v.category).sum ≤ 8) (hstk : stk = As.reverse ++ .ref (nm f i) :: st)
    (k : awTv b E Mc (awC0 Mc) (.ref (nm f i) :: As) S (fun r S1 mc1 ms1 => avGo b E M pc lv st r S1 (kc + mc1) (ks + ms1) Q)) : awV b E M pc lv stk S kc ks Q := by
  obtain ⟨r, S1, mc1, ms1, hQ, hu, hM⟩ := k
  subst hstk
  have run : ∀ (p : Program) (e : Env) (R : Room) (s : State) (m : MethodId) (args : Array Value) (below : List Frame) (meth : Method) (c : Code) (H : Heap) (locs : List Loc) (ad : Nat → Nat) (ls : Array Slot), awCx E M p s m args meth c → awWf S lv (As.reverse ++ .ref (nm f i) :: st) → awR b E S ad H → lv_has ls (awM_n M) (lvm ad lv) → awM_f M ≤ R.frames → awM_l M ≤ R.locals → kc + mc1 ≤ R.cells → ks + ms1 ≤ R.slots →
      vx_Run p (awE_l E) e R s m args below meth c H locs kc ks mc1 ms1 (F0 m pc ls ((As.reverse ++ .ref (nm f i) :: st).map (rnv ad))) (st.map (rnv ad)) (avQ b E S r S1 ad) (avX b E S r S1 ad) (awLo E) := fun p e R s m args below meth c H locs ad ls hCx wf hR hls hfr hlc hcc hss => by
    obtain ⟨hC, hKx, htb⟩ := hCx
    have hts := hC.2.2.2.2.2.2.1
    have hlv : ∀ v ∈ .ref (nm f i) :: As, lvV S v := fun v hv => wf.2 v (by
      rcases List.mem_cons.mp hv with h | h
      · rw [h]; exact List.mem_append_right _ List.mem_cons_self
      · exact List.mem_append_left _ (List.mem_reverse.mpr h))
    exact vx_runV (As := As.map (rnv ad)) (rest := st.map (rnv ad)) ⟨hC.1, hC.2.1, hC.2.2.2.2.1, hC.2.2.2.2.2.1, hts⟩ (hM ad hlv) ⟨callB_of n hts (awBig_cons hw.2.1) rfl rfl rfl (hts _ hw.1) (hts _ w1) hw.2.2 ⟨Nat.le_trans hroom.1 hfr, Nat.le_trans hroom.2 hlc⟩, hts _ w2, hts _ w3⟩ ⟨awPv_blind, awR_recv hC.2.2.2.2.2.2.2.1 hR hf hc (hlv _ List.mem_cons_self), fun U hU hW => ⟨rfl, by rw [hU]; exact hR, hC.2.2.2.2.2.2.2.1.moved hW, hKx.moved hW⟩⟩ rfl (by rw [List.length_map]; exact hn) hls.1 (by rw [List.map_append, List.map_reverse]; rfl) (lv_room (by rw [List.map_map]; simp only [Function.comp_def, rnv_cat]; exact hst)) hd ⟨hcc, hss⟩
  exact avGo.run hu (fun v hv => (List.mem_append_right _ (List.mem_cons_of_mem _ hv))) run hQ
theorem av_thS {idx n : Nat} {Mc : awM} {As : List Value}  (hd : decode (awM_c M) pc = .ok (.invokestatic idx, 3)) (hw : awCallB Mc n) (w1 : Cond.methodLink (awM_y M).cls idx (awM_y Mc) ∈ awBig) (w2 : Cond.static (awM_y Mc) ∈ awBig) (hn : As.length = n) (hroom : awRoom M Mc) (hst : (st.map fun v => v.category).sum ≤ 8) (hstk : stk = As.reverse ++ st)
    (k : awTv b E Mc (awC0 Mc) (As) S (fun r S1 mc1 ms1 => avGo b E M pc lv st r S1 (kc + mc1) (ks + ms1) Q)) : awV b E M pc lv stk S kc ks Q := by
  obtain ⟨r, S1, mc1, ms1, hQ, hu, hM⟩ := k
  subst hstk
  have run : ∀ (p : Program) (e : Env) (R : Room) (s : State) (m : MethodId) (args : Array Value) (below : List Frame) (meth : Method) (c : Code) (H : Heap) (locs : List Loc) (ad : Nat → Nat) (ls : Array Slot), awCx E M p s m args meth c → awWf S lv (As.reverse ++ st) → awR b E S ad H → lv_has ls (awM_n M) (lvm ad lv) → awM_f M ≤ R.frames → awM_l M ≤ R.locals → kc + mc1 ≤ R.cells → ks + ms1 ≤ R.slots →
      vx_Run p (awE_l E) e R s m args below meth c H locs kc ks mc1 ms1 (F0 m pc ls ((As.reverse ++ st).map (rnv ad))) (st.map (rnv ad)) (avQ b E S r S1 ad) (avX b E S r S1 ad) (awLo E) := fun p e R s m args below meth c H locs ad ls hCx wf hR hls hfr hlc hcc hss => by
    obtain ⟨hC, hKx, htb⟩ := hCx
    have hts := hC.2.2.2.2.2.2.1
    have hlv : ∀ v ∈ As, lvV S v := fun v hv => wf.2 v (List.mem_append_left _ (List.mem_reverse.mpr hv))
    exact vx_runS (As := As.map (rnv ad)) (rest := st.map (rnv ad)) ⟨hC.1, hC.2.1, hC.2.2.2.2.1, hC.2.2.2.2.2.1, hts⟩ (hM ad hlv) ⟨callB_of n hts (awBig_cons hw.2.1) rfl rfl rfl (hts _ hw.1) (hts _ w1) hw.2.2 ⟨Nat.le_trans hroom.1 hfr, Nat.le_trans hroom.2 hlc⟩, hts _ w2⟩ ⟨awPv_blind, fun U hU hW => ⟨rfl, by rw [hU]; exact hR, hC.2.2.2.2.2.2.2.1.moved hW, hKx.moved hW⟩⟩ rfl (by rw [List.length_map]; exact hn) hls.1 (by rw [List.map_append, List.map_reverse]) (lv_room (by rw [List.map_map]; simp only [Function.comp_def, rnv_cat]; exact hst)) hd ⟨hcc, hss⟩
  exact avGo.run hu (fun v hv => (List.mem_append_right _ hv)) run hQ
theorem av_hdV {idx f i cc n : Nat} {Mc : awM} {As : List Value}  (hd : decode (awM_c M) pc = .ok (.invokevirtual idx, 3)) (hw : awCallH Mc n) (w1 : Cond.methodLink (awM_y M).cls idx (awM_y Mc) ∈ awBig) (w2 : Cond.instanceMethod (awM_y Mc) ∈ awBig) (w3 : Cond.selects (oCl cc).1 (awM_y Mc) (awM_y Mc) ∈ awBig) (hf : fK f = cc) (hc : cc < 14) (hn : As.length = n) (hroom : awRoom M Mc) (hst : (st.map fun v => v.category).sum ≤ 8) (hstk : stk = As.reverse ++ .ref (nm f i) :: st)
    (k : awTv b E Mc (awCH Mc) (.ref (nm f i) :: As) S (fun r S1 mc1 ms1 => avGo b E M pc lv st r S1 (kc + mc1) (ks + ms1) Q)) : awV b E M pc lv stk S kc ks Q := by
  obtain ⟨r, S1, mc1, ms1, hQ, hu, hM⟩ := k
  subst hstk
  have run : ∀ (p : Program) (e : Env) (R : Room) (s : State) (m : MethodId) (args : Array Value) (below : List Frame) (meth : Method) (c : Code) (H : Heap) (locs : List Loc) (ad : Nat → Nat) (ls : Array Slot), awCx E M p s m args meth c → awWf S lv (As.reverse ++ .ref (nm f i) :: st) → awR b E S ad H → lv_has ls (awM_n M) (lvm ad lv) → awM_f M ≤ R.frames → awM_l M ≤ R.locals → kc + mc1 ≤ R.cells → ks + ms1 ≤ R.slots →
      vx_Run p (awE_l E) e R s m args below meth c H locs kc ks mc1 ms1 (F0 m pc ls ((As.reverse ++ .ref (nm f i) :: st).map (rnv ad))) (st.map (rnv ad)) (avQ b E S r S1 ad) (avX b E S r S1 ad) (awLo E) := fun p e R s m args below meth c H locs ad ls hCx wf hR hls hfr hlc hcc hss => by
    obtain ⟨hC, hKx, htb⟩ := hCx
    have hts := hC.2.2.2.2.2.2.1
    have hlv : ∀ v ∈ .ref (nm f i) :: As, lvV S v := fun v hv => wf.2 v (by
      rcases List.mem_cons.mp hv with h | h
      · rw [h]; exact List.mem_append_right _ List.mem_cons_self
      · exact List.mem_append_left _ (List.mem_reverse.mpr h))
    exact vx_runVX (As := As.map (rnv ad)) (rest := st.map (rnv ad)) ⟨hC.1, hC.2.1, hC.2.2.2.2.1, hC.2.2.2.2.2.1, hts⟩ (hM ad hlv) ⟨⟨rfl, rfl, Nat.le_trans hroom.1 hfr, Nat.le_trans hroom.2 hlc, pay_in hts (awBig_cons hw.2.1), List.mem_cons_self⟩, hts _ hw.2.1, hts _ hw.1, ⟨hw.2.2.1, hw.2.2.2.1⟩, (fun sig h => by have h2 := hw.2.2.2.2; rw [h] at h2; exact (Option.some.inj h2).symm), hts _ w1, hts _ w2, hts _ w3⟩ ⟨awPv_blind, awR_recv hC.2.2.2.2.2.2.2.1 hR hf hc (hlv _ List.mem_cons_self), fun U hU hW => ⟨rfl, by rw [hU]; exact hR, hC.2.2.2.2.2.2.2.1.moved hW, hKx.moved hW⟩⟩ rfl (by rw [List.length_map]; exact hn) hls.1 (by rw [List.map_append, List.map_reverse]; rfl) (lv_room (by rw [List.map_map]; simp only [Function.comp_def, rnv_cat]; exact hst)) hd ⟨hcc, hss⟩
  exact avGo.run hu (fun v hv => (List.mem_append_right _ (List.mem_cons_of_mem _ hv))) run hQ
theorem av_hdS {idx n : Nat} {Mc : awM} {As : List Value}  (hd : decode (awM_c M) pc = .ok (.invokestatic idx, 3)) (hw : awCallH Mc n) (w1 : Cond.methodLink (awM_y M).cls idx (awM_y Mc) ∈ awBig) (w2 : Cond.static (awM_y Mc) ∈ awBig) (hn : As.length = n) (hroom : awRoom M Mc) (hst : (st.map fun v => v.category).sum ≤ 8) (hstk : stk = As.reverse ++ st)
    (k : awTv b E Mc (awCH Mc) (As) S (fun r S1 mc1 ms1 => avGo b E M pc lv st r S1 (kc + mc1) (ks + ms1) Q)) : awV b E M pc lv stk S kc ks Q := by
  obtain ⟨r, S1, mc1, ms1, hQ, hu, hM⟩ := k
  subst hstk
  have run : ∀ (p : Program) (e : Env) (R : Room) (s : State) (m : MethodId) (args : Array Value) (below : List Frame) (meth : Method) (c : Code) (H : Heap) (locs : List Loc) (ad : Nat → Nat) (ls : Array Slot), awCx E M p s m args meth c → awWf S lv (As.reverse ++ st) → awR b E S ad H → lv_has ls (awM_n M) (lvm ad lv) → awM_f M ≤ R.frames → awM_l M ≤ R.locals → kc + mc1 ≤ R.cells → ks + ms1 ≤ R.slots →
      vx_Run p (awE_l E) e R s m args below meth c H locs kc ks mc1 ms1 (F0 m pc ls ((As.reverse ++ st).map (rnv ad))) (st.map (rnv ad)) (avQ b E S r S1 ad) (avX b E S r S1 ad) (awLo E) := fun p e R s m args below meth c H locs ad ls hCx wf hR hls hfr hlc hcc hss => by
    obtain ⟨hC, hKx, htb⟩ := hCx
    have hts := hC.2.2.2.2.2.2.1
    have hlv : ∀ v ∈ As, lvV S v := fun v hv => wf.2 v (List.mem_append_left _ (List.mem_reverse.mpr hv))
    exact vx_runSX (As := As.map (rnv ad)) (rest := st.map (rnv ad)) ⟨hC.1, hC.2.1, hC.2.2.2.2.1, hC.2.2.2.2.2.1, hts⟩ (hM ad hlv) ⟨⟨rfl, rfl, Nat.le_trans hroom.1 hfr, Nat.le_trans hroom.2 hlc, pay_in hts (awBig_cons hw.2.1), List.mem_cons_self⟩, hts _ hw.2.1, hts _ hw.1, ⟨hw.2.2.1, hw.2.2.2.1⟩, (fun sig h => by have h2 := hw.2.2.2.2; rw [h] at h2; exact (Option.some.inj h2).symm), hts _ w1, hts _ w2⟩ ⟨awPv_blind, fun U hU hW => ⟨rfl, by rw [hU]; exact hR, hC.2.2.2.2.2.2.2.1.moved hW, hKx.moved hW⟩⟩ rfl (by rw [List.length_map]; exact hn) hls.1 (by rw [List.map_append, List.map_reverse]) (lv_room (by rw [List.map_map]; simp only [Function.comp_def, rnv_cat]; exact hst)) hd ⟨hcc, hss⟩
  exact avGo.run hu (fun v hv => (List.mem_append_right _ hv)) run hQ
end VCALLS
