theorem fl_J_63 : Cond.fieldLink "java/util/ArrayList" 63 "java/util/ArrayList" "modCount" "I" ∈ awBig := awBig_tab (n := 53) (by decide +kernel) (by decide +kernel)
theorem fs_J_63 : Cond.sameField "java/util/ArrayList" "java/util/AbstractList" "modCount" "I" ∈ awBig := awBig_tab (n := 54) (by decide +kernel) (by decide +kernel)
theorem fl_J_AbstractList_7 : awFld "java/util/AbstractList" 7 0 0 := ⟨by decide, by decide, awBig_tab (n := 52) (by decide +kernel) (by decide +kernel)⟩
section WID
variable {b : Bool} {E : awE} {M : awM} {pc : Nat} {lv lv' : List (Nat × Value)} {st : List Value} {S : awS} {kc ks : Nat} {Q : Option Value → awS → Nat → Nat → Prop}
theorem ax_widen {kc' ks' : Nat} (h1 : kc ≤ kc') (h2 : ks ≤ ks') (k : awX b E M pc lv st S kc' ks' Q) : awX b E M pc lv st S kc ks Q := by
  obtain ⟨r, S', mc, ms, hQ, a1, a2, hu, hk⟩ := k
  exact ⟨r, S', mc, ms, hQ, Nat.le_trans h1 a1, Nat.le_trans h2 a2, hu, fun p e R s m args below meth c hC hf hl hcc hss Qc H locs ad ls wf hR hlo hls hq => W.widen h1 h2 (hk p e R s m args below meth c hC hf hl hcc hss Qc H locs ad ls wf hR hlo hls hq)⟩
/-- the count of changes, under the name that the list's own class gives it -/
theorem ax_getMC {f : Nat} (hd : decode (awM_c M) pc = .ok (.getfield 63, 3)) (hy : (awM_y M).cls = "java/util/ArrayList") (hf : fK f = 0) (hb : nb b f = true) (kk : awX b E M (pc + 3) lv (.int (sI S f 0 0) :: st) S kc ks Q) : awX b E M pc lv (.ref (nm f 0) :: st) S kc ks Q := by
  have hk : 0 < (oCl 0).2.2 := by decide
  refine awX.step awUp_rf (Nat.le_refl _) (Nat.le_refl _) (fun p e R s m args below meth c0 H locs ad ls Z hC wf hR hlo hls _ _ _ _ kk => ?_) kk
  have hff := fK_obj (f := f) (by rw [hf]; decide)
  have hl : lvN S (nm f 0) := wf.top
  have hat := (awR_at hR hff.1 hff.2 hb hl).2
  rw [awCell_obj hf (by decide)] at hat
  have k2 := kk H locs ad ls awAg_rf (wf.pop.pi (x := sI S f 0 0)) hR hlo hls
  have hl2 : Cond.fieldLink (awM_y M).cls 63 "java/util/ArrayList" ((oCl 0).2.1 0).2.1 ((oCl 0).2.1 0).2.2.1 ∈ awBig := by rw [hy]; exact fl_J_63
  exact va_get (D := awE_D E) (cl := vwCl) hC.1 hC.2.1 hC.2.2.2.2.2.2.1 (oWs 0 (by decide)) hC.2.2.2.2.2.1 hC.2.2.2.2.2.2.2.1.1 (va_P1 hat) 0 rfl (oCl_at 0 (by decide)) 0 hk (hC.2.2.2.2.2.2.1 _ hl2) (fun x hx => u_same (hC.2.2.2.2.2.2.1 _ fs_J_63) x hx) (fs_get hk) hd k2
theorem ax_putMC {f : Nat} {x : Int32} (hd : decode (awM_c M) pc = .ok (.putfield 63, 3)) (hy : (awM_y M).cls = "java/util/ArrayList") (hf : fK f = 0) (hb : nb b f = true) (kk : awX b E M (pc + 3) lv st (wI S f 0 0 x) kc ks Q) : awX b E M pc lv (.int x :: .ref (nm f 0) :: st) S kc ks Q := by
  have hk : 0 < (oCl 0).2.2 := by decide
  have hc : 0 < 14 := by decide
  refine awX.step (S1 := wI S f 0 0 x) (fun n h => h) (Nat.le_refl _) (Nat.le_refl _) (fun p e R s m args below meth c0 H locs ad ls Z hC wf hR hlo hls _ _ _ _ kk => ?_) kk
  have hff := fK_obj (f := f) (by rw [hf]; decide)
  have hl : lvN S (nm f 0) := wf.pop.top
  obtain ⟨hlo1, hat⟩ := awR_at hR hff.1 hff.2 hb hl
  rw [awCell_obj hf (by decide)] at hat
  have wf' : awWf (wI S f 0 0 x) lv st := ⟨fun q hq => wf.1 q hq, fun q hq => wf.pop.pop.2 q hq⟩
  have hK := hC.2.2.2.2.2.2.2.1.1
  have hts := hC.2.2.2.2.2.2.1
  have hin := oWs 0 hc
  have hap := va_apart (own := (awM_y M).cls) hts hin (oTy 0) (oTy_ok 0 hc) (oNm 0 hc) hK (oCl_at 0 hc)
  obtain ⟨r, h1, cell, q1, q2, q3, q4⟩ := hat
  have hr : r = ((oCl 0).1, (oCl 0).2.1, (oCl 0).2.2) := Option.some.inj (h1.symm.trans (oCl_at 0 hc))
  subst hr
  obtain ⟨hS, hfc, kC, hkC, hkind⟩ := hK.1 0 _ (oCl_at 0 hc)
  obtain ⟨cf, kf, fi, fd, hi, hsl⟩ := hS 0 hk
  have hlay := hts _ (hin _ (u_in_lay hk))
  have hst := (u_facts hfc hkC (u_lays hts hin hk) hi).1
  have hl2 : Cond.fieldLink (awM_y M).cls 63 "java/util/ArrayList" ((oCl 0).2.1 0).2.1 ((oCl 0).2.1 0).2.2.1 ∈ awBig := by rw [hy]; exact fl_J_63
  have fin : ∀ H' : Heap, H'[ad (nm f 0)]? = some (cell.setSlot fd.slot (.int x)) → H'.size = H.size → (∀ q, q ≠ ad (nm f 0) → H'[q]? = H[q]?) → W p (awE_l E) e R s m args below meth c0 H' (locs ++ [⟨ad (nm f 0), fd.slot⟩]) kc ks Z (F0 m (pc + 3) ls (st.map (rnv ad))) := by
    intro H' e1 e2 e3
    rw [hsl] at e1
    refine kk H' _ ad ls awAg_rf wf' (awR_wI hR hff.1 hff.2 hb hl ?_ e2 e3) (fun q hq => ?_) hls
    · rw [awCell_obj hf hc]
      refine ⟨_, oCl_at 0 hc, t_OB.to (V := updV (vp_V (fs ad S f 0 0)) 0 (.int x)) ⟨_, e1, q2, q3, t_set q4 hap hk (.int x)⟩ (fun j hj => ?_)⟩
      rw [vpV_fs hj]
      unfold updV
      rw [vpV_fs hj]
      unfold fv
      by_cases e : j = 0
      · subst e
        rw [if_pos rfl]
        show Value.int x = Value.int (sI (wI S f 0 0 x) f 0 0)
        rw [sI_wI, if_pos ⟨rfl, rfl, rfl⟩]
      · rw [if_neg e, sI_wI, if_neg (fun z => e z.2.2)]; rfl
    · rcases List.mem_append.mp hq with h | h
      · exact hlo q h
      · rw [List.mem_singleton.mp h]; exact hlo1
  unfold u_lay at hlay
  rw [if_neg (by decide)] at hlay
  have h6 := u_store hfc hkC hkind hlay hi (oTy_ok 0 hc 0 hk) (show narrow (oTy 0 0) (.int x) = .int x from rfl) (show fits (oTy 0 0) (.int x) = true from rfl)
  exact W.putK hC.1 hC.2.1 (f := fd) ⟨hC.2.2.2.2.2.1, hts _ hl2, ⟨_, _, _, u_same (hts _ fs_J_63) _ hi⟩, hst⟩ (by rw [q2]; exact h6) q1 q3 (by rw [hsl]; exact k2_hasslot (q4 0 hk)) rfl rfl hd fin
end WID
/-- a contract over the lists as they lie, as one over the lists -/
theorem awT.lift {E : awE} {m : awM} {As : List Value} {S S' : awS} {r : Option Value} {mc ms : Nat} {Q : Option Value → awS → Nat → Nat → Prop} (hQ : Q r S' mc ms) (hup : awUp S S')
    (h : ∀ S0, awHid S S0 → (∀ f i k r, i < sC S0 f → sR S0 f i k = some r → lvN S0 r) → (∀ v ∈ As, lvV S v) → awT false E m As S0 (fun r' S0' mc' ms' => r' = r ∧ awHid S' S0' ∧ mc' = mc ∧ ms' = ms ∧ ∀ v, r = some v → lvV S' v)) : awT true E m As S Q := by
  refine ⟨r, S', mc, ms, hQ, hup, fun ad hl => ?_⟩
  intro p e hadm hf hc s mm args below hfr happ hP hK
  obtain ⟨ha, ⟨S0, hh, h0⟩, hK2⟩ := hP
  obtain ⟨r', S0', mc', ms', ⟨rfl, hh', rfl, rfl, hrl⟩, hu0, hM⟩ := h S0 hh h0.2.2.2.2.1 hl
  have hlv : ∀ v, lvV S v → lvV S0 v := fun v hv => by cases v <;> first | exact hh.lv hv | exact hv
  obtain ⟨n, o, b1, b2, b3, ⟨ad', c1, c2, c3, c4⟩, b5⟩ := hM ad (fun v hv => hlv v (hl v hv)) p e hadm hf hc s mm args below hfr happ ⟨ha, h0, hK2⟩ hK
  exact ⟨n, o, b1, b2, b3, ⟨ad', fun m hm => c1 m (hh.lv hm), c2, ⟨S0', hh', c3⟩, hrl⟩, b5⟩

theorem Met.ofWF {l : Launch} {y : MethodName} {ws ws' : List Cond} {rm : Room} {Pc : Array Value → State → Prop} {Qc : Array Value → State → Outcome → State → Prop} {mc ms : Nat} {free : Addr → Prop} {cc : ByteArray} {maxL : Nat} {ret : Option FieldType}
    (hy : plainFor y = true) (hw : ws = Cond.code y cc maxL ret :: ws')
    (body : ∀ p e s m args below meth c s₁, BodyLoose p l y (headSpec ws rm) cc maxL ret e s m args below meth c s₁ → c.maxLocals = maxL → Pc args s →
      W p l e (headSpec ws rm).room s m args below meth c s.heap [] 0 0 (MQ below Qc args s mc ms free) (entryFrame m args maxL)) : Met l y ws rm Pc Qc mc ms free := by
  refine MetFree.of_bodySF (code := cc) (maxLocals := maxL) (ret := ret) hy ?_ ?_
  · intro args s m h hn
    obtain ⟨meth, c, h1, h2, h3, h4, h5, h6, -, -⟩ := Cond.code_spec hn (atoms_spec (ws := ws) h _ (by rw [hw]; exact List.mem_cons_self))
    exact ⟨meth, c, h1, h2, h3, h4, h5, h6⟩
  · intro p e s m args below meth c s₁ B hml hP _
    have hh0 : s₁.heap = s.heap := by rw [B.state]; rfl
    obtain ⟨t, a1, o, b1, b2, b3⟩ := body p e s m args below meth c s₁ B hml hP s₁ hh0 (Stand.of_body B)
    exact ⟨t, o, a1, b1, b2, ⟨b3.1, b3.2⟩⟩
/-- a method's contract out of its body's walk, where the class's name alone doesn't say that no native stands for it -/
theorem awT.ofF {b : Bool} {E : awE} {M : awM} {As : List Value} {S : awS} {Q : Option Value → awS → Nat → Nat → Prop} (hy : plainFor (awM_y M) = true) (hi : awM_i M = decide ((awM_y M).name = "<init>")) (hn : (lg_sl As).length ≤ awM_n M)
    (k : awX b E M 0 (lv_args 0 As) [] S 0 0 Q) : awT b E M As S Q := by
  obtain ⟨r, S', mc, ms, hQ, -, -, hu, hk⟩ := k
  refine ⟨r, S', mc, ms, hQ, hu, fun ad hlive => ?_⟩
  refine Met.ofWF (cc := awM_c M) (maxL := awM_n M) (ret := awM_r M) hy rfl ?_
  intro p e s m args below meth c s₁ B hml hv
  obtain ⟨rfl, hR, hK⟩ := hv
  have hts := atoms_spec (ws := Cond.code (awM_y M) (awM_c M) (awM_n M) (awM_r M) :: awBig) B.pre
  have hlo : (∀ q, q < awE_lo E → s.heap[q]? = (awE_H E)[q]?) ∧ awE_lo E ≤ s.heap.size := by
    cases b with
    | false => exact ⟨hR.1, hR.2.1⟩
    | true => obtain ⟨S0, -, h0⟩ := hR; exact ⟨h0.1, h0.2.1⟩
  have hC : awC E M p s m ((As.map (rnv ad)).toArray) meth c := ⟨B.exec, B.bytes, B.returns, B.notSynchronized, hml, findClass_of_methodNamed B.named, fun w hw => hts w (List.mem_cons_of_mem _ hw), hK, fun h => by
    rw [(name_of_methodNamed B.named B.method).1]
    exact of_decide_eq_true (hi.symm.trans h), hlo.1, hlo.2⟩
  have hl := lv_entry (As.map (rnv ad)) (n := awM_n M) (by rw [lg_sl_rn]; exact hn)
  rw [lg_entry_eq]
  rw [lv_args_rn] at hl
  exact hk p e _ s m _ below meth c hC (Nat.le_refl _) (Nat.le_refl _) (Nat.le_refl _) (Nat.le_refl _) _ s.heap [] ad _ ⟨lv_args_lv hlive, fun v hv => by cases hv⟩ hR (fun q hq => by cases hq) hl (fun ad' t g1 g2 g3 => ⟨ad', g1, rfl, g2, g3⟩)

set_option maxHeartbeats 4000000 in
set_option maxRecDepth 100000 in
theorem t_imax {b : Bool} {E : awE} {S : awS} {Q : Option Value → awS → Nat → Nat → Prop} {x y : Int32} (h1 : x < y → Q (some (.int y)) S 0 0) (h0 : ¬ x < y → Q (some (.int x)) S 0 0) : awT b E m_J9_max_7cf53 [.int x, .int y] S Q := by
  refine awT.ofF (by decide +kernel) (by decide) (Nat.le_of_ble_eq_true rfl) ?_
  refine ax_iload_n (i := 0) dJ9_max_7cf53_0 rfl rfl ?_
  refine ax_iload_n (i := 1) dJ9_max_7cf53_1 rfl rfl ?_
  refine ax_icmp_lt (tgt := 9) dJ9_max_7cf53_2 (by decide) (fun c_2 => ?_) (fun c_2 => ?_)
  · refine ax_iload_n (i := 1) dJ9_max_7cf53_9 rfl rfl ?_
    refine ax_iret dJ9_max_7cf53_10 rfl rfl ?_
    exact h1 c_2
  · refine ax_iload_n (i := 0) dJ9_max_7cf53_5 rfl rfl ?_
    refine ax_goto (tgt := 10) dJ9_max_7cf53_6 (by decide) ?_
    refine ax_iret dJ9_max_7cf53_10 rfl rfl ?_
    exact h0 c_2
set_option maxHeartbeats 4000000 in
set_option maxRecDepth 100000 in
theorem t_imin {b : Bool} {E : awE} {S : awS} {Q : Option Value → awS → Nat → Nat → Prop} {x y : Int32} (h1 : y < x → Q (some (.int y)) S 0 0) (h0 : ¬ y < x → Q (some (.int x)) S 0 0) : awT b E m_J9_min_7cf53 [.int x, .int y] S Q := by
  refine awT.ofF (by decide +kernel) (by decide) (Nat.le_of_ble_eq_true rfl) ?_
  refine ax_iload_n (i := 0) dJ9_min_7cf53_0 rfl rfl ?_
  refine ax_iload_n (i := 1) dJ9_min_7cf53_1 rfl rfl ?_
  refine ax_icmp_gt (tgt := 9) dJ9_min_7cf53_2 (by decide) (fun c_2 => ?_) (fun c_2 => ?_)
  · refine ax_iload_n (i := 1) dJ9_min_7cf53_9 rfl rfl ?_
    refine ax_iret dJ9_min_7cf53_10 rfl rfl ?_
    exact h1 c_2
  · refine ax_iload_n (i := 0) dJ9_min_7cf53_5 rfl rfl ?_
    refine ax_goto (tgt := 10) dJ9_min_7cf53_6 (by decide) ?_
    refine ax_iret dJ9_min_7cf53_10 rfl rfl ?_
    exact h0 c_2
set_option maxHeartbeats 4000000 in
set_option maxRecDepth 100000 in
theorem t_lmax {b : Bool} {E : awE} {S : awS} {Q : Option Value → awS → Nat → Nat → Prop} {x y : Int64} (h1 : x < y → Q (some (.long y)) S 0 0) (h0 : ¬ x < y → Q (some (.long x)) S 0 0) : awT b E m_J9_max_f86c9 [.long x, .long y] S Q := by
  refine awT.ofF (by decide +kernel) (by decide) (Nat.le_of_ble_eq_true rfl) ?_
  refine ax_lload_n (i := 0) dJ9_max_f86c9_0 rfl rfl ?_
  refine ax_lload_n (i := 2) dJ9_max_f86c9_1 rfl rfl ?_
  refine ax_lcmp dJ9_max_f86c9_2 ?_
  refine ax_if_lt (tgt := 10) dJ9_max_f86c9_3 (by decide) (fun c_3 => ?_) (fun c_3 => ?_)
  · refine ax_lload_n (i := 2) dJ9_max_f86c9_10 rfl rfl ?_
    refine ax_lret dJ9_max_f86c9_11 rfl ?_
    exact h1 ((lg_cmp_lt _ _).mp c_3)
  · refine ax_lload_n (i := 0) dJ9_max_f86c9_6 rfl rfl ?_
    refine ax_goto (tgt := 11) dJ9_max_f86c9_7 (by decide) ?_
    refine ax_lret dJ9_max_f86c9_11 rfl ?_
    exact h0 (fun z => c_3 ((lg_cmp_lt _ _).mpr z))
set_option maxHeartbeats 4000000 in
set_option maxRecDepth 100000 in
theorem t_labs {b : Bool} {E : awE} {S : awS} {Q : Option Value → awS → Nat → Nat → Prop} {x : Int64} (h1 : x < 0 → Q (some (.long (-x))) S 0 0) (h0 : ¬ x < 0 → Q (some (.long x)) S 0 0) : awT b E m_J9_abs_067f4 [.long x] S Q := by
  refine awT.ofF (by decide +kernel) (by decide) (Nat.le_of_ble_eq_true rfl) ?_
  refine ax_lload_n (i := 0) dJ9_abs_067f4_0 rfl rfl ?_
  refine ax_lconst (v := 0) dJ9_abs_067f4_1 (by decide) ?_
  refine ax_lcmp dJ9_abs_067f4_2 ?_
  refine ax_if_ge (tgt := 11) dJ9_abs_067f4_3 (by decide) (fun c_3 => ?_) (fun c_3 => ?_)
  · refine ax_lload_n (i := 0) dJ9_abs_067f4_11 rfl rfl ?_
    refine ax_lret dJ9_abs_067f4_12 rfl ?_
    exact h0 (fun z => Int32.not_lt.mpr c_3 ((lg_cmp_lt _ _).mpr z))
  · refine ax_lload_n (i := 0) dJ9_abs_067f4_6 rfl rfl ?_
    refine ax_lneg dJ9_abs_067f4_7 ?_
    refine ax_goto (tgt := 12) dJ9_abs_067f4_8 (by decide) ?_
    refine ax_lret dJ9_abs_067f4_12 rfl ?_
    exact h1 ((lg_cmp_lt _ _).mp (Int32.not_le.mp c_3))
set_option maxHeartbeats 4000000 in
set_option maxRecDepth 100000 in
theorem t_chk3 {b : Bool} {E : awE} {S : awS} {Q : Option Value → awS → Nat → Nat → Prop} {x n : Int32} (h0 : 0 ≤ x) (h1 : x < n) (h : Q (some (.int x)) S 0 0) : awT b E m_J3_checkIndex_8e157 [.int x, .int n, .null] S Q := by
  refine awT.of (by decide) (by decide) (Nat.le_of_ble_eq_true rfl) ?_
  refine ax_iload_n (i := 0) dJ3_checkIndex_8e157_0 rfl rfl ?_
  refine ax_if_lt (tgt := 9) dJ3_checkIndex_8e157_1 (by decide) (fun c => absurd c (Int32.not_lt.mpr h0)) (fun _ => ?_)
  refine ax_iload_n (i := 0) dJ3_checkIndex_8e157_4 rfl rfl ?_
  refine ax_iload_n (i := 1) dJ3_checkIndex_8e157_5 rfl rfl ?_
  refine ax_icmp_lt (tgt := 16) dJ3_checkIndex_8e157_6 (by decide) (fun _ => ?_) (fun c => absurd h1 c)
  refine ax_iload_n (i := 0) dJ3_checkIndex_8e157_16 rfl rfl ?_
  exact ax_iret dJ3_checkIndex_8e157_17 rfl rfl h
theorem t_chk {b : Bool} {E : awE} {S : awS} {Q : Option Value → awS → Nat → Nat → Prop} {x n : Int32} (h0 : 0 ≤ x) (h1 : x < n) (h : Q (some (.int x)) S 0 0) : awT b E m_J15_checkIndex_7cf53 [.int x, .int n] S Q := by
  refine awT.of (by decide) (by decide) (Nat.le_of_ble_eq_true rfl) ?_
  refine ax_iload_n (i := 0) dJ15_checkIndex_7cf53_0 rfl rfl ?_
  refine ax_iload_n (i := 1) dJ15_checkIndex_7cf53_1 rfl rfl ?_
  refine ax_null dJ15_checkIndex_7cf53_2 ?_
  refine ax_invS (n := 3) (As := [_, _, _]) dJ15_checkIndex_7cf53_3 cb_J3_checkIndex_8e157 cs_J_Objects_105.1 cs_J_Objects_105.2 rfl ⟨Nat.le_of_ble_eq_true rfl, Nat.le_of_ble_eq_true rfl⟩ (Nat.le_of_ble_eq_true rfl) rfl (t_chk3 h0 h1 ?_)
  exact ax_iret dJ15_checkIndex_7cf53_6 rfl rfl h
theorem l_size {E : awE} {S : awS} {Q : Option Value → awS → Nat → Nat → Prop} {f : Nat} (hf : fK f = 0) (h : Q (some (.int (sI S f 0 2))) S 0 0) : awT false E m_Jx4a65c_size_8abf5 [.ref (nm f 0)] S Q := by
  refine awT.of (by decide) (by decide) (Nat.le_of_ble_eq_true rfl) ?_
  refine ax_aload_n (i := 0) dJx4a65c_size_8abf5_0 rfl rfl rfl ?_
  refine ax_getI dJx4a65c_size_8abf5_1 fl_J_48 hf rfl rfl ?_
  exact ax_iret dJx4a65c_size_8abf5_4 rfl rfl h
theorem l_data {E : awE} {S : awS} {Q : Option Value → awS → Nat → Nat → Prop} {f g i : Nat} {x : Int32} (hf : fK f = 0) (hg : fK g = 25) (hd : sR S f 0 1 = some (nm g i)) (hin : vp_in x (sN S g i)) (h : Q (some (va_rf (sR S g i x.toNatClampNeg))) S 0 0) : awT false E m_Jx4a65c_elementData_915e3 [.ref (nm f 0), .int x] S Q := by
  refine awT.of (by decide) (by decide) (Nat.le_of_ble_eq_true rfl) ?_
  refine ax_aload_n (i := 0) dJx4a65c_elementData_915e3_0 rfl rfl rfl ?_
  refine ax_getR dJx4a65c_elementData_915e3_1 fl_J_9 hf rfl rfl hd ?_
  refine ax_iload_n (i := 1) dJx4a65c_elementData_915e3_4 rfl rfl ?_
  refine ax_oald dJx4a65c_elementData_915e3_5 hg rfl hin rfl ?_
  exact ax_aret dJx4a65c_elementData_915e3_6 rfl (Or.inl ⟨_, rfl⟩) h
theorem l_get {E : awE} {S : awS} {Q : Option Value → awS → Nat → Nat → Prop} {f g i : Nat} {x : Int32} (hf : fK f = 0) (hg : fK g = 25) (hd : sR S f 0 1 = some (nm g i)) (hin : vp_in x (sN S g i)) (h0 : 0 ≤ x) (h1 : x < sI S f 0 2) (h : Q (some (va_rf (sR S g i x.toNatClampNeg))) S 0 0) : awT false E m_Jx4a65c_get_915e3 [.ref (nm f 0), .int x] S Q := by
  refine awT.of (by decide) (by decide) (Nat.le_of_ble_eq_true rfl) ?_
  refine ax_iload_n (i := 1) dJx4a65c_get_915e3_0 rfl rfl ?_
  refine ax_aload_n (i := 0) dJx4a65c_get_915e3_1 rfl rfl rfl ?_
  refine ax_getI dJx4a65c_get_915e3_2 fl_J_48 hf rfl rfl ?_
  refine ax_invS (n := 2) (As := [_, _]) dJx4a65c_get_915e3_5 cb_J15_checkIndex_7cf53 cs_J_118.1 cs_J_118.2 rfl ⟨Nat.le_of_ble_eq_true rfl, Nat.le_of_ble_eq_true rfl⟩ (Nat.le_of_ble_eq_true rfl) rfl (t_chk h0 h1 ?_)
  refine ax_pop dJx4a65c_get_915e3_8 rfl ?_
  refine ax_aload_n (i := 0) dJx4a65c_get_915e3_9 rfl rfl rfl ?_
  refine ax_iload_n (i := 1) dJx4a65c_get_915e3_10 rfl rfl ?_
  refine ax_invV (c := 0) (n := 1) (As := [_]) dJx4a65c_get_915e3_11 cb_Jx4a65c_elementData_915e3 cv_J_123.1 cv_J_123.2.1 cv_J_123.2.2 hf (by decide) rfl ⟨Nat.le_of_ble_eq_true rfl, Nat.le_of_ble_eq_true rfl⟩ (Nat.le_of_ble_eq_true rfl) rfl (l_data hf hg hd hin ?_)
  exact ax_aret dJx4a65c_get_915e3_14 rfl (Or.inl ⟨_, rfl⟩) h
theorem t_newLen {b : Bool} {E : awE} {S : awS} {Q : Option Value → awS → Nat → Nat → Prop} {c y : Nat} (h1 : 1 ≤ y) (hc : c + y ≤ 100000) (h : Q (some (.int (nI (c + y)))) S 0 0) : awT b E m_J8_newLength_cabcc [.int (nI c), .int 1, .int (nI y)] S Q := by
  refine awT.of (by decide) (by decide) (Nat.le_of_ble_eq_true rfl) ?_
  refine ax_iload_n (i := 0) dJ8_newLength_cabcc_0 rfl rfl ?_
  refine ax_iload_n (i := 1) dJ8_newLength_cabcc_1 rfl rfl ?_
  refine ax_iload_n (i := 2) dJ8_newLength_cabcc_2 rfl rfl ?_
  have key : awX b E m_J8_newLength_cabcc 6 [(0, .int (nI c)), (1, .int 1), (2, .int (nI y))] [.int (nI y), .int (nI c)] S 0 0 Q := by
    refine ax_iaddN dJ8_newLength_cabcc_6 ?_
    refine ax_istore_n (i := 3) (lv' := [(3, _), (0, _), (1, _), (2, _)]) dJ8_newLength_cabcc_7 rfl (by decide) rfl ?_
    refine ax_iconst (v := 0) dJ8_newLength_cabcc_8 (by decide) ?_
    refine ax_iload_n (i := 3) dJ8_newLength_cabcc_9 rfl rfl ?_
    refine ax_icmp_ge (tgt := 21) dJ8_newLength_cabcc_10 (by decide) (fun c_10 => absurd c_10 (Int32.not_le.mpr (nI_lt (a := 0) (by omega) (by omega)))) (fun _ => ?_)
    refine ax_iload_n (i := 3) dJ8_newLength_cabcc_13 rfl rfl ?_
    refine ax_ldc dJ8_newLength_cabcc_14 kc_J_ArraysSupport_200 ?_
    refine ax_icmp_gt (tgt := 21) dJ8_newLength_cabcc_16 (by decide) (fun c_16 => absurd c_16 (Int32.not_lt.mpr (nI_le (b := 2147483639) (by omega) (by decide)))) (fun _ => ?_)
    refine ax_iload_n (i := 3) dJ8_newLength_cabcc_19 rfl rfl ?_
    exact ax_iret dJ8_newLength_cabcc_20 rfl rfl h
  refine ax_invS (n := 2) (As := [_, _]) dJ8_newLength_cabcc_3 cb_J9_max_7cf53 cs_J_ArraysSupport_194.1 cs_J_ArraysSupport_194.2 rfl ⟨Nat.le_of_ble_eq_true rfl, Nat.le_of_ble_eq_true rfl⟩ (Nat.le_of_ble_eq_true rfl) rfl (t_imax (fun _ => key) (fun c2 => ?_))
  have e : y = 1 := by
    have := Int32.not_lt.mp c2
    by_cases e2 : y = 1
    · exact e2
    · exact absurd (nI_lt (a := 1) (b := y) (by omega) (by omega)) c2
  subst e
  exact key
theorem l_copy3 {E : awE} {S : awS} {Q : Option Value → awS → Nat → Nat → Prop} {g i c n : Nat} (hg : fK g = 25) (hc : sN S g i = c) (hl : i < sC S g) (hcn : c ≤ n) (hn : n ≤ 100000) (hel : ∀ k r, sR S g i k = some r → fK (r % 256) < 14) (h : Q (some (.ref (nm g (sC S g)))) (wRf (wNew S g n) g (sC S g) (va_cpy (sR (wNew S g n) g i) (sR (wNew S g n) g (sC S g)) 0 0 c)) 1 n) : awT false E m_J7_copyOf_6403c [.ref (nm g i), .int (nI n), .ref nmC] S Q := by
  have hne : ¬ (i = sC S g) := by omega
  have hNo : sN (wNew S g n) g i = c := by rw [sN_wN, if_neg (fun z => hne z.2), hc]
  have hNn : sN (wNew S g n) g (sC S g) = n := by rw [sN_wN, if_pos ⟨rfl, rfl⟩]
  have hel2 : ∀ k r, sR (wNew S g n) g i k = some r → fK (r % 256) < 14 := fun k r hr => hel k r (by rw [sR_wN, if_neg (fun z => hne z.2)] at hr; exact hr)
  refine awT.of (by decide) (by decide) (Nat.le_of_ble_eq_true rfl) ?_
  refine ax_aload_n (i := 2) dJ7_copyOf_6403c_0 rfl rfl rfl ?_
  refine ax_ldcC dJ7_copyOf_6403c_1 kl_J_Arrays_110 ?_
  refine ax_acmp_ne (tgt := 13) dJ7_copyOf_6403c_3 (by decide) rfl rfl (Or.inl rfl) (fun c => absurd rfl c) (fun _ => ?_)
  refine ax_iload_n (i := 1) dJ7_copyOf_6403c_6 rfl rfl ?_
  refine ax_newO (f := g) (n := n) dJ7_copyOf_6403c_7 kl_J_Arrays_2 hg rfl (Int32.not_lt.mpr (nI_nn (by omega))) (nI_clamp (by omega)) (by omega) ?_
  refine ax_goto (tgt := 24) dJ7_copyOf_6403c_10 (by decide) ?_
  refine ax_astore_n (i := 3) (lv' := [(3, _), (0, _), (1, _), (2, _)]) dJ7_copyOf_6403c_24 rfl (by decide) rfl rfl ?_
  refine ax_aload_n (i := 0) dJ7_copyOf_6403c_25 rfl rfl rfl ?_
  refine ax_iconst (v := 0) dJ7_copyOf_6403c_26 (by decide) ?_
  refine ax_aload_n (i := 3) dJ7_copyOf_6403c_27 rfl rfl rfl ?_
  refine ax_iconst (v := 0) dJ7_copyOf_6403c_28 (by decide) ?_
  refine ax_aload_n (i := 0) dJ7_copyOf_6403c_29 rfl rfl rfl ?_
  refine ax_alen dJ7_copyOf_6403c_30 (by rw [hg]; decide) rfl ?_
  refine ax_iload_n (i := 1) dJ7_copyOf_6403c_31 rfl rfl ?_
  rw [hNo]
  refine ax_invS (n := 2) (As := [_, _]) dJ7_copyOf_6403c_32 cb_J9_min_7cf53 cs_J_Arrays_304.1 cs_J_Arrays_304.2 rfl ⟨Nat.le_of_ble_eq_true rfl, Nat.le_of_ble_eq_true rfl⟩ (Nat.le_of_ble_eq_true rfl) rfl (t_imin (fun c2 => absurd c2 (Int32.not_lt.mpr (nI_le hcn (by omega)))) (fun _ => ?_))
  have z0 : (0 : Int32).toNatClampNeg = 0 := rfl
  refine ax_copyO (n := nI c) dJ7_copyOf_6403c_35 kp_J_Arrays_150 hg hg hel2 (by decide) (by decide) (Int32.not_lt.mpr (nI_nn (by omega))) (by rw [hNo, nI_clamp (by omega), z0]; omega) (by rw [hNn, nI_clamp (by omega), z0]; omega) ⟨Nat.le_of_ble_eq_true rfl, Nat.le_of_ble_eq_true rfl⟩ (Nat.le_of_ble_eq_true rfl) ?_
  rw [nI_clamp (by omega), z0]
  refine ax_aload_n (i := 3) dJ7_copyOf_6403c_38 rfl rfl rfl ?_
  refine ax_aret (r := some (nm g (sC S g))) dJ7_copyOf_6403c_39 rfl (Or.inr ⟨_, rfl⟩) ?_
  rw [Nat.zero_add, Nat.zero_add]
  exact h
theorem l_copy2 {E : awE} {S : awS} {Q : Option Value → awS → Nat → Nat → Prop} {g i c n : Nat} (hg : fK g = 25) (hc : sN S g i = c) (hl : i < sC S g) (hcn : c ≤ n) (hn : n ≤ 100000) (hel : ∀ k r, sR S g i k = some r → fK (r % 256) < 14) (h : Q (some (.ref (nm g (sC S g)))) (wRf (wNew S g n) g (sC S g) (va_cpy (sR (wNew S g n) g i) (sR (wNew S g n) g (sC S g)) 0 0 c)) 1 n) : awT false E m_J7_copyOf_1904c [.ref (nm g i), .int (nI n)] S Q := by
  refine awT.of (by decide) (by decide) (Nat.le_of_ble_eq_true rfl) ?_
  refine ax_aload_n (i := 0) dJ7_copyOf_1904c_0 rfl rfl rfl ?_
  refine ax_iload_n (i := 1) dJ7_copyOf_1904c_1 rfl rfl ?_
  refine ax_aload_n (i := 0) dJ7_copyOf_1904c_2 rfl rfl rfl ?_
  refine ax_getC dJ7_copyOf_1904c_3 kg_1 kg_2 kg_3 kg_4 hg rfl ⟨Nat.le_of_ble_eq_true rfl, Nat.le_of_ble_eq_true rfl⟩ (Nat.le_of_ble_eq_true rfl) ?_
  refine ax_invS (n := 3) (As := [_, _, _]) dJ7_copyOf_1904c_6 cb_J7_copyOf_6403c cs_J_Arrays_300.1 cs_J_Arrays_300.2 rfl ⟨Nat.le_of_ble_eq_true rfl, Nat.le_of_ble_eq_true rfl⟩ (Nat.le_of_ble_eq_true rfl) rfl (l_copy3 hg hc hl hcn hn hel ?_)
  refine ax_aret (r := some (nm g (sC S g))) dJ7_copyOf_1904c_9 rfl (Or.inr ⟨_, rfl⟩) ?_
  rw [Nat.zero_add, Nat.zero_add]
  exact h
theorem l_growE {E : awE} {S : awS} {Q : Option Value → awS → Nat → Nat → Prop} {f g : Nat} (hf : fK f = 0) (hg : fK g = 25) (hd : sR S f 0 1 = some nmE) (h : Q (some (.ref (nm g (sC S g)))) (wR (wNew S g 10) f 0 1 (some (nm g (sC S g)))) 1 10) : awT false E m_Jx4a65c_grow_92f84 [.ref (nm f 0), .int (nI 1)] S Q := by
  refine awT.of (by decide) (by decide) (Nat.le_of_ble_eq_true rfl) ?_
  refine ax_aload_n (i := 0) dJx4a65c_grow_92f84_0 rfl rfl rfl ?_
  refine ax_getR dJx4a65c_grow_92f84_1 fl_J_9 hf rfl rfl hd ?_
  refine ax_elen dJx4a65c_grow_92f84_4 ?_
  refine ax_istore_n (i := 2) (lv' := [(2, _), (0, _), (1, _)]) dJx4a65c_grow_92f84_5 rfl (by decide) rfl ?_
  refine ax_iload_n (i := 2) dJx4a65c_grow_92f84_6 rfl rfl ?_
  refine ax_if_gt (tgt := 20) dJx4a65c_grow_92f84_7 (by decide) (fun c => absurd c (by decide)) (fun _ => ?_)
  refine ax_aload_n (i := 0) dJx4a65c_grow_92f84_10 rfl rfl rfl ?_
  refine ax_getR dJx4a65c_grow_92f84_11 fl_J_9 hf rfl rfl hd ?_
  refine ax_getE dJx4a65c_grow_92f84_14 (awBig_tab (n := 48) (by decide +kernel) (by decide +kernel)) ?_
  refine ax_acmp_eq (tgt := 45) dJx4a65c_grow_92f84_17 (by decide) rfl rfl (Or.inl rfl) (fun _ => ?_) (fun c => absurd rfl c)
  refine ax_aload_n (i := 0) dJx4a65c_grow_92f84_45 rfl rfl rfl ?_
  refine ax_bipush (v := 10) dJx4a65c_grow_92f84_46 (by decide) ?_
  refine ax_iload_n (i := 1) dJx4a65c_grow_92f84_48 rfl rfl ?_
  refine ax_invS (n := 2) (As := [_, _]) dJx4a65c_grow_92f84_49 cb_J9_max_7cf53 cs_J_79.1 cs_J_79.2 rfl ⟨Nat.le_of_ble_eq_true rfl, Nat.le_of_ble_eq_true rfl⟩ (Nat.le_of_ble_eq_true rfl) rfl (t_imax (fun c => absurd c (by decide)) (fun _ => ?_))
  refine ax_newO (f := g) (n := 10) dJx4a65c_grow_92f84_52 kl_J_7 hg rfl (by decide) (by decide) (by decide) ?_
  refine ax_dup_x1 dJx4a65c_grow_92f84_55 rfl rfl ?_
  refine ax_putR dJx4a65c_grow_92f84_56 fl_J_9 hf rfl rfl (Or.inl rfl) ?_
  exact ax_aret (r := some (nm g (sC S g))) dJx4a65c_grow_92f84_59 rfl (Or.inr ⟨_, rfl⟩) h
theorem shr1 : ∀ c, c < 2000 → nI c >>> ((1 : Int32) &&& 31) = nI (c / 2) := by decide +kernel
theorem l_growB {E : awE} {S : awS} {Q : Option Value → awS → Nat → Nat → Prop} {f g i c : Nat} (hf : fK f = 0) (hg : fK g = 25) (hfg : ¬ f = g) (hd : sR S f 0 1 = some (nm g i)) (hc : sN S g i = c) (hc2 : 10 ≤ c ∧ c ≤ 1500) (hl : i < sC S g) (hel : ∀ k r, sR S g i k = some r → fK (r % 256) < 14) (h : Q (some (.ref (nm g (sC S g)))) (wR (wRf (wNew S g (c + c / 2)) g (sC S g) (va_cpy (sR (wNew S g (c + c / 2)) g i) (sR (wNew S g (c + c / 2)) g (sC S g)) 0 0 c)) f 0 1 (some (nm g (sC S g)))) 1 (c + c / 2)) : awT false E m_Jx4a65c_grow_92f84 [.ref (nm f 0), .int (nI (c + 1))] S Q := by
  refine awT.of (by decide) (by decide) (Nat.le_of_ble_eq_true rfl) ?_
  refine ax_aload_n (i := 0) dJx4a65c_grow_92f84_0 rfl rfl rfl ?_
  refine ax_getR dJx4a65c_grow_92f84_1 fl_J_9 hf rfl rfl hd ?_
  refine ax_alen dJx4a65c_grow_92f84_4 (by rw [hg]; decide) rfl ?_
  rw [hc]
  refine ax_istore_n (i := 2) (lv' := [(2, _), (0, _), (1, _)]) dJx4a65c_grow_92f84_5 rfl (by decide) rfl ?_
  refine ax_iload_n (i := 2) dJx4a65c_grow_92f84_6 rfl rfl ?_
  refine ax_if_gt (tgt := 20) dJx4a65c_grow_92f84_7 (by decide) (fun _ => ?_) (fun z => absurd (nI_lt (a := 0) (b := c) (by omega) (by omega)) z)
  refine ax_iload_n (i := 2) dJx4a65c_grow_92f84_20 rfl rfl ?_
  refine ax_iload_n (i := 1) dJx4a65c_grow_92f84_21 rfl rfl ?_
  refine ax_iload_n (i := 2) dJx4a65c_grow_92f84_22 rfl rfl ?_
  refine ax_isubN dJx4a65c_grow_92f84_23 (by omega) ?_
  refine ax_iload_n (i := 2) dJx4a65c_grow_92f84_24 rfl rfl ?_
  refine ax_iconst (v := 1) dJx4a65c_grow_92f84_25 (by decide) ?_
  refine ax_ishr dJx4a65c_grow_92f84_26 ?_
  rw [shr1 c (by omega), show nI (c + 1 - c) = 1 by rw [show c + 1 - c = 1 by omega]; rfl]
  refine ax_invS (n := 3) (As := [_, _, _]) dJx4a65c_grow_92f84_27 cb_J8_newLength_cabcc cs_J_73.1 cs_J_73.2 rfl ⟨Nat.le_of_ble_eq_true rfl, Nat.le_of_ble_eq_true rfl⟩ (Nat.le_of_ble_eq_true rfl) rfl (t_newLen (by omega) (by omega) ?_)
  refine ax_istore_n (i := 3) (lv' := [(3, _), (2, _), (0, _), (1, _)]) dJx4a65c_grow_92f84_30 rfl (by decide) rfl ?_
  refine ax_aload_n (i := 0) dJx4a65c_grow_92f84_31 rfl rfl rfl ?_
  refine ax_aload_n (i := 0) dJx4a65c_grow_92f84_32 rfl rfl rfl ?_
  refine ax_getR dJx4a65c_grow_92f84_33 fl_J_9 hf rfl rfl hd ?_
  refine ax_iload_n (i := 3) dJx4a65c_grow_92f84_36 rfl rfl ?_
  refine ax_invS (n := 2) (As := [_, _]) dJx4a65c_grow_92f84_37 cb_J7_copyOf_1904c cs_J_66.1 cs_J_66.2 rfl ⟨Nat.le_of_ble_eq_true rfl, Nat.le_of_ble_eq_true rfl⟩ (Nat.le_of_ble_eq_true rfl) rfl (l_copy2 hg hc hl (by omega) (by omega) hel ?_)
  refine ax_dup_x1 dJx4a65c_grow_92f84_40 rfl rfl ?_
  refine ax_putR dJx4a65c_grow_92f84_41 fl_J_9 hf rfl rfl (Or.inl rfl) ?_
  refine ax_aret (r := some (nm g (sC S g))) dJx4a65c_grow_92f84_44 rfl (Or.inr ⟨_, rfl⟩) ?_
  rw [Nat.zero_add, Nat.zero_add]
  exact h

set_option maxHeartbeats 4000000 in
set_option maxRecDepth 100000 in
theorem l_grow0E {E : awE} {S : awS} {Q : Option Value → awS → Nat → Nat → Prop} {f g : Nat} (hf : fK f = 0) (hg : fK g = 25) (hd : sR S f 0 1 = some nmE) (hn : sI S f 0 2 = nI 0) (h : Q (some (.ref (nm g (sC S g)))) (wR (wNew S g 10) f 0 1 (some (nm g (sC S g)))) 1 10) : awT false E m_Jx4a65c_grow_d5877 [.ref (nm f 0)] S Q := by
  refine awT.of (by decide) (by decide) (Nat.le_of_ble_eq_true rfl) ?_
  refine ax_aload_n (i := 0) dJx4a65c_grow_d5877_0 rfl rfl rfl ?_
  refine ax_aload_n (i := 0) dJx4a65c_grow_d5877_1 rfl rfl rfl ?_
  refine ax_getI dJx4a65c_grow_d5877_2 fl_J_48 hf rfl rfl ?_
  rw [hn]
  refine ax_iconst (v := 1) dJx4a65c_grow_d5877_5 (by decide) ?_
  refine ax_iadd1 dJx4a65c_grow_d5877_6 ?_
  refine ax_invV (c := 0) (n := 1) (As := [_]) dJx4a65c_grow_d5877_7 cb_Jx4a65c_grow_92f84 cv_J_69.1 cv_J_69.2.1 cv_J_69.2.2 hf (by decide) rfl ⟨Nat.le_of_ble_eq_true rfl, Nat.le_of_ble_eq_true rfl⟩ (Nat.le_of_ble_eq_true rfl) rfl (l_growE hf hg hd ?_)
  refine ax_aret (r := some (nm g (sC S g))) dJx4a65c_grow_d5877_10 rfl (Or.inr ⟨_, rfl⟩) ?_
  rw [Nat.zero_add, Nat.zero_add]
  exact h
theorem l_grow0B {E : awE} {S : awS} {Q : Option Value → awS → Nat → Nat → Prop} {f g i c : Nat} (hf : fK f = 0) (hg : fK g = 25) (hfg : ¬ f = g) (hd : sR S f 0 1 = some (nm g i)) (hn : sI S f 0 2 = nI c) (hc : sN S g i = c) (hc2 : 10 ≤ c ∧ c ≤ 1500) (hl : i < sC S g) (hel : ∀ k r, sR S g i k = some r → fK (r % 256) < 14) (h : Q (some (.ref (nm g (sC S g)))) (wR (wRf (wNew S g (c + c / 2)) g (sC S g) (va_cpy (sR (wNew S g (c + c / 2)) g i) (sR (wNew S g (c + c / 2)) g (sC S g)) 0 0 c)) f 0 1 (some (nm g (sC S g)))) 1 (c + c / 2)) : awT false E m_Jx4a65c_grow_d5877 [.ref (nm f 0)] S Q := by
  refine awT.of (by decide) (by decide) (Nat.le_of_ble_eq_true rfl) ?_
  refine ax_aload_n (i := 0) dJx4a65c_grow_d5877_0 rfl rfl rfl ?_
  refine ax_aload_n (i := 0) dJx4a65c_grow_d5877_1 rfl rfl rfl ?_
  refine ax_getI dJx4a65c_grow_d5877_2 fl_J_48 hf rfl rfl ?_
  rw [hn]
  refine ax_iconst (v := 1) dJx4a65c_grow_d5877_5 (by decide) ?_
  refine ax_iadd1 dJx4a65c_grow_d5877_6 ?_
  refine ax_invV (c := 0) (n := 1) (As := [_]) dJx4a65c_grow_d5877_7 cb_Jx4a65c_grow_92f84 cv_J_69.1 cv_J_69.2.1 cv_J_69.2.2 hf (by decide) rfl ⟨Nat.le_of_ble_eq_true rfl, Nat.le_of_ble_eq_true rfl⟩ (Nat.le_of_ble_eq_true rfl) rfl (l_growB hf hg hfg hd hc hc2 hl hel ?_)
  refine ax_aret (r := some (nm g (sC S g))) dJx4a65c_grow_d5877_10 rfl (Or.inr ⟨_, rfl⟩) ?_
  rw [Nat.zero_add, Nat.zero_add]
  exact h
/-- behind the growing: the new one is written at place n of the row nm g i -/
theorem l_addT {E : awE} {S : awS} {Q : Option Value → awS → Nat → Nat → Prop} {f g i n c j kc ks : Nat} {w : Value} (hf : fK f = 0) (hg : fK g = 25) (hc : fK c < 14) (hn : n < sN S g i) (hnb : sN S g i < 2 ^ 31) (h : Q none (wI (wR S g i n (some (nm c j))) f 0 2 (nI (n + 1))) kc ks) : awX false E m_Jx4a65c_add_72be8 11 [(0, .ref (nm f 0)), (1, .ref (nm c j)), (2, .ref (nm g i)), (3, .int (nI n))] [] S kc ks Q := by
  refine ax_aload_n (i := 2) dJx4a65c_add_72be8_11 rfl rfl rfl ?_
  refine ax_iload_n (i := 3) dJx4a65c_add_72be8_12 rfl rfl ?_
  refine ax_aload_n (i := 1) dJx4a65c_add_72be8_13 rfl rfl rfl ?_
  refine ax_oast dJx4a65c_add_72be8_14 hg rfl rfl hc (vp_in_nI hn hnb) ?_
  rw [nI_clamp (by omega)]
  refine ax_aload_n (i := 0) dJx4a65c_add_72be8_15 rfl rfl rfl ?_
  refine ax_iload_n (i := 3) dJx4a65c_add_72be8_16 rfl rfl ?_
  refine ax_iconst (v := 1) dJx4a65c_add_72be8_17 (by decide) ?_
  refine ax_iadd1 dJx4a65c_add_72be8_18 ?_
  refine ax_putI dJx4a65c_add_72be8_19 fl_J_48 hf rfl rfl (Or.inl rfl) rfl rfl ?_
  exact ax_vret dJx4a65c_add_72be8_22 rfl h
theorem l_add3N {E : awE} {S : awS} {Q : Option Value → awS → Nat → Nat → Prop} {f g i n c j : Nat} (hf : fK f = 0) (hg : fK g = 25) (hc : fK c < 14) (hn : n < sN S g i) (hnb : sN S g i < 2 ^ 31) (h : Q none (wI (wR S g i n (some (nm c j))) f 0 2 (nI (n + 1))) 0 0) : awT false E m_Jx4a65c_add_72be8 [.ref (nm f 0), .ref (nm c j), .ref (nm g i), .int (nI n)] S Q := by
  refine awT.of (by decide) (by decide) (Nat.le_of_ble_eq_true rfl) ?_
  refine ax_iload_n (i := 3) dJx4a65c_add_72be8_0 rfl rfl ?_
  refine ax_aload_n (i := 2) dJx4a65c_add_72be8_1 rfl rfl rfl ?_
  refine ax_alen dJx4a65c_add_72be8_2 (by rw [hg]; decide) rfl ?_
  refine ax_icmp_ne (tgt := 11) dJx4a65c_add_72be8_3 (by decide) (fun _ => ?_) (fun z => absurd (fun e => absurd ((nI_eq (by omega) hnb).mp e) (by omega)) z)
  exact l_addT (w := .null) hf hg hc hn hnb h
theorem l_add3E {E : awE} {S : awS} {Q : Option Value → awS → Nat → Nat → Prop} {f g c j : Nat} (hf : fK f = 0) (hg : fK g = 25) (hfg : ¬ f = g) (hc : fK c < 14) (hd : sR S f 0 1 = some nmE) (hn : sI S f 0 2 = nI 0) (h : Q none (wI (wR (wR (wNew S g 10) f 0 1 (some (nm g (sC S g)))) g (sC S g) 0 (some (nm c j))) f 0 2 (nI 1)) 1 10) : awT false E m_Jx4a65c_add_72be8 [.ref (nm f 0), .ref (nm c j), .ref nmE, .int (nI 0)] S Q := by
  refine awT.of (by decide) (by decide) (Nat.le_of_ble_eq_true rfl) ?_
  refine ax_iload_n (i := 3) dJx4a65c_add_72be8_0 rfl rfl ?_
  refine ax_aload_n (i := 2) dJx4a65c_add_72be8_1 rfl rfl rfl ?_
  refine ax_elen dJx4a65c_add_72be8_2 ?_
  refine ax_icmp_ne (tgt := 11) dJx4a65c_add_72be8_3 (by decide) (fun z => absurd (by decide) z) (fun _ => ?_)
  refine ax_aload_n (i := 0) dJx4a65c_add_72be8_6 rfl rfl rfl ?_
  refine ax_invV (c := 0) (n := 0) (As := []) dJx4a65c_add_72be8_7 cb_Jx4a65c_grow_d5877 cv_J_129.1 cv_J_129.2.1 cv_J_129.2.2 hf (by decide) rfl ⟨Nat.le_of_ble_eq_true rfl, Nat.le_of_ble_eq_true rfl⟩ (Nat.le_of_ble_eq_true rfl) rfl (l_grow0E hf hg hd hn ?_)
  refine ax_astore_n (i := 2) (lv' := [(2, _), (0, _), (1, _), (3, _)]) dJx4a65c_add_72be8_10 rfl (by decide) rfl rfl ?_
  refine ax_loc (lv' := [(0, .ref (nm f 0)), (1, .ref (nm c j)), (2, .ref (nm g (sC S g))), (3, .int (nI 0))]) rfl ?_
  have e : sN (wR (wNew S g 10) f 0 1 (some (nm g (sC S g)))) g (sC S g) = 10 := by rw [sN_wR, sN_wN, if_pos ⟨rfl, rfl⟩]
  exact l_addT (w := .null) hf hg hc (by rw [e]; decide) (by rw [e]; decide) h
theorem l_add3B {E : awE} {S : awS} {Q : Option Value → awS → Nat → Nat → Prop} {f g i n c j : Nat} (hf : fK f = 0) (hg : fK g = 25) (hfg : ¬ f = g) (hc : fK c < 14) (hd : sR S f 0 1 = some (nm g i)) (hn : sI S f 0 2 = nI n) (hcn : sN S g i = n) (hc2 : 10 ≤ n ∧ n ≤ 1500) (hl : i < sC S g) (hel : ∀ k r, sR S g i k = some r → fK (r % 256) < 14)
    (h : Q none (wI (wR (wR (wRf (wNew S g (n + n / 2)) g (sC S g) (va_cpy (sR (wNew S g (n + n / 2)) g i) (sR (wNew S g (n + n / 2)) g (sC S g)) 0 0 n)) f 0 1 (some (nm g (sC S g)))) g (sC S g) n (some (nm c j))) f 0 2 (nI (n + 1))) 1 (n + n / 2)) : awT false E m_Jx4a65c_add_72be8 [.ref (nm f 0), .ref (nm c j), .ref (nm g i), .int (nI n)] S Q := by
  refine awT.of (by decide) (by decide) (Nat.le_of_ble_eq_true rfl) ?_
  refine ax_iload_n (i := 3) dJx4a65c_add_72be8_0 rfl rfl ?_
  refine ax_aload_n (i := 2) dJx4a65c_add_72be8_1 rfl rfl rfl ?_
  refine ax_alen dJx4a65c_add_72be8_2 (by rw [hg]; decide) rfl ?_
  rw [hcn]
  refine ax_icmp_ne (tgt := 11) dJx4a65c_add_72be8_3 (by decide) (fun z => absurd rfl z) (fun _ => ?_)
  refine ax_aload_n (i := 0) dJx4a65c_add_72be8_6 rfl rfl rfl ?_
  refine ax_invV (c := 0) (n := 0) (As := []) dJx4a65c_add_72be8_7 cb_Jx4a65c_grow_d5877 cv_J_129.1 cv_J_129.2.1 cv_J_129.2.2 hf (by decide) rfl ⟨Nat.le_of_ble_eq_true rfl, Nat.le_of_ble_eq_true rfl⟩ (Nat.le_of_ble_eq_true rfl) rfl (l_grow0B hf hg hfg hd hn hcn hc2 hl hel ?_)
  refine ax_astore_n (i := 2) (lv' := [(2, _), (0, _), (1, _), (3, _)]) dJx4a65c_add_72be8_10 rfl (by decide) rfl rfl ?_
  refine ax_loc (lv' := [(0, .ref (nm f 0)), (1, .ref (nm c j)), (2, .ref (nm g (sC S g))), (3, .int (nI n))]) rfl ?_
  have e : sN (wR (wRf (wNew S g (n + n / 2)) g (sC S g) (va_cpy (sR (wNew S g (n + n / 2)) g i) (sR (wNew S g (n + n / 2)) g (sC S g)) 0 0 n)) f 0 1 (some (nm g (sC S g)))) g (sC S g) = n + n / 2 := by
    show sN (wNew S g (n + n / 2)) g (sC S g) = _
    rw [sN_wN, if_pos ⟨rfl, rfl⟩]
  exact l_addT (w := .null) hf hg hc (by rw [e]; omega) (by rw [e]; omega) (by rw [Nat.zero_add, Nat.zero_add]; exact h)
theorem fK_32 : ∀ q, q < 9 → fK (32 + q) = 0 := by decide
theorem fK_48 : ∀ q, q < 9 → fK (48 + q) = 25 := by decide
theorem sI_wRf (S : awS) (f i : Nat) (g : Nat → Option Nat) (f' i' k' : Nat) : sI (wRf S f i g) f' i' k' = sI S f' i' k' := rfl
theorem sL_wRf (S : awS) (f i : Nat) (g : Nat → Option Nat) (f' i' k' : Nat) : sL (wRf S f i g) f' i' k' = sL S f' i' k' := rfl
theorem sN_wRf (S : awS) (f i : Nat) (g : Nat → Option Nat) (f' i' : Nat) : sN (wRf S f i g) f' i' = sN S f' i' := rfl
theorem sC_wRf (S : awS) (f i : Nat) (g : Nat → Option Nat) (f' : Nat) : sC (wRf S f i g) f' = sC S f' := rfl
def elU (el : Nat → Nat) (n e : Nat) : Nat → Nat := fun j => if j = n then e else el j
theorem hid_add {S S0 S0' : awS} {q n e : Nat} {el : Nat → Nat} (hh : awHid S S0) (hq : q < 9) (he : lvN S e) (hK : sK S q = (n, el)) (hlv : ∀ j, j < n → lvN S (el j)) (hn : n + 1 < 1000000)
    (hI : ∀ f i k, ¬ f = 32 + q → ¬ f = 48 + q → sI S0' f i k = sI S0 f i k) (hL : ∀ f i k, ¬ f = 48 + q → sL S0' f i k = sL S0 f i k) (hR : ∀ f i k, ¬ f = 32 + q → ¬ f = 48 + q → sR S0' f i k = sR S0 f i k) (hN : ∀ f i, ¬ f = 48 + q → sN S0' f i = sN S0 f i) (hC : ∀ f, ¬ f = 48 + q → sC S0' f = sC S0 f)
    (h2 : sI S0' (32 + q) 0 2 = nI (n + 1))
    (hg : ∃ g, g < sC S0' (48 + q) ∧ sR S0' (32 + q) 0 1 = some (nm (48 + q) g) ∧ n + 1 ≤ sN S0' (48 + q) g ∧ 10 ≤ sN S0' (48 + q) g ∧ sN S0' (48 + q) g ≤ 10 + 2 * (n + 1) ∧ (∀ j, j < n + 1 → sR S0' (48 + q) g j = some (elU el n e j)) ∧ ∀ j r, sR S0' (48 + q) g j = some r → fK (r % 256) < 14) : awHid (wK S q (n + 1, elU el n e)) S0' := by
  obtain ⟨a1, a2, a3, a4, a5⟩ := hh
  refine ⟨fun f hf => ?_, fun f hf => ?_, a3, fun q' hq' hc hk => ?_, a5⟩
  · obtain ⟨b1, b2, b3, b4⟩ := a1 f hf
    exact ⟨fun i k => (hI f i k (by omega) (by omega)).trans (b1 i k), fun i k => (hL f i k (by omega)).trans (b2 i k), fun i k => (hR f i k (by omega) (by omega)).trans (b3 i k), fun i => (hN f i (by omega)).trans (b4 i)⟩
  · exact (hC f (by omega)).trans (a2 f hf)
  · rw [sK_wK] at hk ⊢
    by_cases e1 : q' = q
    · subst e1
      rw [if_pos rfl] at hk ⊢
      refine ⟨by rw [h2, Nat.mod_eq_of_lt hn], fun j hj => ?_, Or.inr hg⟩
      show lvN S (elU el n e j)
      unfold elU
      by_cases e2 : j = n
      · rw [if_pos e2]; exact he
      · rw [if_neg e2]; exact hlv j (by have : j < n + 1 := hj; omega)
    · rw [if_neg e1] at hk ⊢
      have b1 := a4 q' hq' hc hk
      rw [hI _ _ _ (by omega) (by omega), hR _ _ _ (by omega) (by omega)]
      refine ⟨b1.1, b1.2.1, ?_⟩
      rcases b1.2.2 with z | ⟨g, z1, z2, z3, z4, z5, z6⟩
      · exact Or.inl z
      · refine Or.inr ⟨g, by rw [hC _ (by omega)]; exact z1, z2, ?_, ?_, ?_, fun j hj => by rw [hR _ _ _ (by omega) (by omega)]; exact z6.1 j hj, fun j r hr => by rw [hR _ _ _ (by omega) (by omega)] at hr; exact z6.2 j r hr⟩ <;> rw [hN _ _ (by omega)] <;> assumption
def l_addQ (S : awS) (q n e : Nat) (el : Nat → Nat) : Option Value → awS → Nat → Nat → Prop := fun r' S0' mc' ms' => r' = some (.int 1) ∧ awHid (wK S q (n + 1, elU el n e)) S0' ∧ mc' = 1 ∧ ms' = 2 * n + 12 ∧ ∀ v, some (Value.int 1) = some v → lvV (wK S q (n + 1, elU el n e)) v
theorem l_add {E : awE} {S S0 : awS} {q n c i : Nat} {el : Nat → Nat} (hh : awHid S S0) (hq : q < 9) (hC : sC S (32 + q) = 1) (hK : sK S q = (n, el)) (hn : n < 1000) (he : lvN S (nm c i)) (hc : fK c < 14) (hc2 : c < 256) : awT false E m_Jx4a65c_add_9ea2d [.ref (nm (32 + q) 0), .ref (nm c i)] S0 (l_addQ S q n (nm c i) el) := by
  have hk := hh.2.2.2.1 q hq hC (by rw [hK]; show n < 1000001; omega)
  rw [hK] at hk
  have hk1 : sI S0 (32 + q) 0 2 = nI n := by have := hk.1; rw [Nat.mod_eq_of_lt (by show n < 1000000; omega)] at this; exact this
  have hlv : ∀ j, j < n → lvN S (el j) := hk.2.1
  have hf := fK_32 q hq
  have hg := fK_48 q hq
  have hfg : ¬ 32 + q = 48 + q := by omega
  have hcm : (nm c i) % 256 = c := nm_f hc2
  refine awT.of (by decide) (by decide) (Nat.le_of_ble_eq_true rfl) ?_
  refine ax_aload_n (i := 0) dJx4a65c_add_9ea2d_0 rfl rfl rfl ?_
  refine ax_dup dJx4a65c_add_9ea2d_1 rfl ?_
  refine ax_getMC dJx4a65c_add_9ea2d_2 rfl hf rfl ?_
  refine ax_iconst (v := 1) dJx4a65c_add_9ea2d_5 (by decide) ?_
  refine ax_iadd dJx4a65c_add_9ea2d_6 ?_
  refine ax_putMC dJx4a65c_add_9ea2d_7 rfl hf rfl ?_
  refine ax_aload_n (i := 0) dJx4a65c_add_9ea2d_10 rfl rfl rfl ?_
  refine ax_aload_n (i := 1) dJx4a65c_add_9ea2d_11 rfl rfl rfl ?_
  refine ax_aload_n (i := 0) dJx4a65c_add_9ea2d_12 rfl rfl rfl ?_
  generalize hS1 : wI S0 (32 + q) 0 0 (sI S0 (32 + q) 0 0 + 1) = S1
  have w1 : ∀ f i k, ¬ (f = 32 + q ∧ i = 0 ∧ k = 0) → sI S1 f i k = sI S0 f i k := fun f i k z => by rw [← hS1, sI_wI, if_neg z]
  have w2 : ∀ f i k, sL S1 f i k = sL S0 f i k := fun f i k => by rw [← hS1, sL_wI]
  have w3 : ∀ f i k, sR S1 f i k = sR S0 f i k := fun f i k => by rw [← hS1, sR_wI]
  have w4 : ∀ f i, sN S1 f i = sN S0 f i := fun f i => by rw [← hS1, sN_wI]
  have w5 : ∀ f, sC S1 f = sC S0 f := fun f => by rw [← hS1, sC_wI]
  have hs1 : sI S1 (32 + q) 0 2 = nI n := by rw [w1 _ _ _ (by omega)]; exact hk1
  rcases hk.2.2 with (⟨z1, z2⟩ | z1) | ⟨g, z1, z2, z3, z4, z5, z6, z7⟩
  · have z1 : n = 0 := z1
    subst z1
    have hd1 : sR S1 (32 + q) 0 1 = some nmE := by rw [w3]; exact z2
    refine ax_getR dJx4a65c_add_9ea2d_13 fl_J_9 hf rfl rfl hd1 ?_
    refine ax_aload_n (i := 0) dJx4a65c_add_9ea2d_16 rfl rfl rfl ?_
    refine ax_getI dJx4a65c_add_9ea2d_17 fl_J_48 hf rfl rfl ?_
    rw [hs1]
    refine ax_invV (c := 0) (n := 3) (As := [_, _, _]) dJx4a65c_add_9ea2d_20 cb_Jx4a65c_add_72be8 cv_J_131.1 cv_J_131.2.1 cv_J_131.2.2 hf (by decide) rfl ⟨Nat.le_of_ble_eq_true rfl, Nat.le_of_ble_eq_true rfl⟩ (Nat.le_of_ble_eq_true rfl) rfl (l_add3E hf hg hfg hc hd1 hs1 ?_)
    refine ax_widen (kc' := 1) (ks' := 2 * 0 + 12) (by omega) (by omega) ?_
    refine ax_iconst (v := 1) dJx4a65c_add_9ea2d_23 (by decide) ?_
    refine ax_iret dJx4a65c_add_9ea2d_24 rfl rfl ⟨rfl, ?_, rfl, rfl, fun v hv => by cases hv; exact trivial⟩
    refine hid_add hh hq he hK hlv (by omega) (fun f i k y z => ?_) (fun f i k z => ?_) (fun f i k y z => ?_) (fun f i z => ?_) (fun f z => ?_) ?_ ?_
    · simp only [sI_wI, sI_wR, sI_wRf, sI_wN, y, z, false_and, if_false]
      exact w1 _ _ _ (fun q => y q.1)
    · simp only [sL_wI, sL_wR, sL_wRf, sL_wN, z, false_and, if_false]
      exact w2 _ _ _
    · simp only [sR_wI, sR_wR, sR_wRf, sR_wN, y, z, false_and, if_false]
      exact w3 _ _ _
    · simp only [sN_wI, sN_wR, sN_wRf, sN_wN, z, false_and, if_false]
      exact w4 _ _
    · simp only [sC_wI, sC_wR, sC_wRf, sC_wN, z, if_false]
      exact w5 _
    · simp only [sI_wI, true_and, and_self, if_true]
    · refine ⟨sC S1 (48 + q), ?_, ?_, ?_, ?_, ?_, fun j hj => ?_, fun j r hr => ?_⟩
      · simp only [sC_wI, sC_wR, sC_wN, if_true]; omega
      · simp only [sR_wI, sR_wR, hfg, false_and, if_false, true_and, and_self, if_true]
      · simp only [sN_wI, sN_wR, sN_wN, and_self, if_true]; decide
      · simp only [sN_wI, sN_wR, sN_wN, and_self, if_true]; decide
      · simp only [sN_wI, sN_wR, sN_wN, and_self, if_true]; decide
      · have e0 : j = 0 := by omega
        subst e0
        simp only [sR_wI, sR_wR, and_self, if_true]
        rfl
      · rw [sR_wI, sR_wR] at hr
        by_cases e0 : j = 0
        · rw [if_pos ⟨rfl, rfl, e0⟩] at hr
          cases hr; rw [hcm]; exact hc
        · rw [if_neg (fun z => e0 z.2.2), sR_wR, if_neg (fun z => hfg z.1.symm), sR_wN, if_pos ⟨rfl, rfl⟩] at hr
          cases hr
  · exact absurd (show n = 1000000 from z1) (by omega)
  · have hd1 : sR S1 (32 + q) 0 1 = some (nm (48 + q) g) := by rw [w3]; exact z2
    have z3 : n ≤ sN S0 (48 + q) g := z3
    have z5 : sN S0 (48 + q) g ≤ 10 + 2 * n := z5
    have z6 : ∀ j, j < n → sR S0 (48 + q) g j = some (el j) := z6
    refine ax_getR dJx4a65c_add_9ea2d_13 fl_J_9 hf rfl rfl hd1 ?_
    refine ax_aload_n (i := 0) dJx4a65c_add_9ea2d_16 rfl rfl rfl ?_
    refine ax_getI dJx4a65c_add_9ea2d_17 fl_J_48 hf rfl rfl ?_
    rw [hs1]
    by_cases hfull : n = sN S0 (48 + q) g
    · have hel : ∀ k r, sR S1 (48 + q) g k = some r → fK (r % 256) < 14 := fun k r hr => z7 k r (by rw [← w3]; exact hr)
      refine ax_invV (c := 0) (n := 3) (As := [_, _, _]) dJx4a65c_add_9ea2d_20 cb_Jx4a65c_add_72be8 cv_J_131.1 cv_J_131.2.1 cv_J_131.2.2 hf (by decide) rfl ⟨Nat.le_of_ble_eq_true rfl, Nat.le_of_ble_eq_true rfl⟩ (Nat.le_of_ble_eq_true rfl) rfl (l_add3B hf hg hfg hc hd1 hs1 ((w4 _ _).trans hfull.symm) (by omega) (by rw [w5]; exact z1) hel ?_)
      refine ax_widen (kc' := 1) (ks' := 2 * n + 12) (by omega) (by omega) ?_
      refine ax_iconst (v := 1) dJx4a65c_add_9ea2d_23 (by decide) ?_
      refine ax_iret dJx4a65c_add_9ea2d_24 rfl rfl ⟨rfl, ?_, rfl, rfl, fun v hv => by cases hv; exact trivial⟩
      have hgn : ¬ g = sC S1 (48 + q) := by rw [w5]; omega
      have hcp : ∀ j, va_cpy (sR (wNew S1 (48 + q) (n + n / 2)) (48 + q) g) (sR (wNew S1 (48 + q) (n + n / 2)) (48 + q) (sC S1 (48 + q))) 0 0 n j = if j < n then sR S0 (48 + q) g j else none := fun j => by
        unfold va_cpy
        by_cases e1 : j < n
        · rw [if_pos ⟨Nat.zero_le _, by omega⟩, if_pos e1, sR_wN, if_neg (fun z => hgn z.2), w3, Nat.sub_zero, Nat.zero_add]
        · rw [if_neg (fun z => e1 (by omega)), if_neg e1, sR_wN, if_pos ⟨rfl, rfl⟩]
      refine hid_add hh hq he hK hlv (by omega) (fun f i k y z => ?_) (fun f i k z => ?_) (fun f i k y z => ?_) (fun f i z => ?_) (fun f z => ?_) ?_ ?_
      · simp only [sI_wI, sI_wR, sI_wRf, sI_wN, y, z, false_and, if_false]
        exact w1 _ _ _ (fun q => y q.1)
      · simp only [sL_wI, sL_wR, sL_wRf, sL_wN, z, false_and, if_false]
        exact w2 _ _ _
      · simp only [sR_wI, sR_wR, sR_wRf, sR_wN, y, z, false_and, if_false]
        exact w3 _ _ _
      · simp only [sN_wI, sN_wR, sN_wRf, sN_wN, z, false_and, if_false]
        exact w4 _ _
      · simp only [sC_wI, sC_wR, sC_wRf, sC_wN, z, if_false]
        exact w5 _
      · simp only [sI_wI, true_and, and_self, if_true]
      · refine ⟨sC S1 (48 + q), ?_, ?_, ?_, ?_, ?_, fun j hj => ?_, fun j r hr => ?_⟩
        · simp only [sC_wI, sC_wR, sC_wRf, sC_wN, if_true]; omega
        · simp only [sR_wI, sR_wR, hfg, false_and, if_false, true_and, and_self, if_true]
        · simp only [sN_wI, sN_wR, sN_wRf, sN_wN, and_self, if_true]; omega
        · simp only [sN_wI, sN_wR, sN_wRf, sN_wN, and_self, if_true]; omega
        · simp only [sN_wI, sN_wR, sN_wRf, sN_wN, and_self, if_true]; omega
        · rw [sR_wI, sR_wR]
          unfold elU
          by_cases e0 : j = n
          · rw [if_pos ⟨rfl, rfl, e0⟩, if_pos e0]
          · rw [if_neg (fun z => e0 z.2.2), sR_wR, if_neg (fun z => hfg z.1.symm), sR_wRf, if_pos ⟨rfl, rfl⟩, hcp, if_pos (by omega), if_neg e0]
            exact z6 j (by omega)
        · rw [sR_wI, sR_wR] at hr
          by_cases e0 : j = n
          · rw [if_pos ⟨rfl, rfl, e0⟩] at hr
            cases hr; rw [hcm]; exact hc
          · rw [if_neg (fun z => e0 z.2.2), sR_wR, if_neg (fun z => hfg z.1.symm), sR_wRf, if_pos ⟨rfl, rfl⟩, hcp] at hr
            by_cases e1 : j < n
            · rw [if_pos e1] at hr; exact z7 j r hr
            · rw [if_neg e1] at hr; cases hr
    · refine ax_invV (c := 0) (n := 3) (As := [_, _, _]) dJx4a65c_add_9ea2d_20 cb_Jx4a65c_add_72be8 cv_J_131.1 cv_J_131.2.1 cv_J_131.2.2 hf (by decide) rfl ⟨Nat.le_of_ble_eq_true rfl, Nat.le_of_ble_eq_true rfl⟩ (Nat.le_of_ble_eq_true rfl) rfl (l_add3N hf hg hc (by rw [w4]; omega) (by rw [w4]; omega) ?_)
      refine ax_widen (kc' := 1) (ks' := 2 * n + 12) (by omega) (by omega) ?_
      refine ax_iconst (v := 1) dJx4a65c_add_9ea2d_23 (by decide) ?_
      refine ax_iret dJx4a65c_add_9ea2d_24 rfl rfl ⟨rfl, ?_, rfl, rfl, fun v hv => by cases hv; exact trivial⟩
      refine hid_add hh hq he hK hlv (by omega) (fun f i k y z => ?_) (fun f i k z => ?_) (fun f i k y z => ?_) (fun f i z => ?_) (fun f z => ?_) ?_ ?_
      · simp only [sI_wI, sI_wR, sI_wRf, sI_wN, y, z, false_and, if_false]
        exact w1 _ _ _ (fun q => y q.1)
      · simp only [sL_wI, sL_wR, sL_wRf, sL_wN, z, false_and, if_false]
        exact w2 _ _ _
      · simp only [sR_wI, sR_wR, sR_wRf, sR_wN, y, z, false_and, if_false]
        exact w3 _ _ _
      · simp only [sN_wI, sN_wR, sN_wRf, sN_wN, z, false_and, if_false]
        exact w4 _ _
      · simp only [sC_wI, sC_wR, sC_wRf, sC_wN, z, if_false]
        exact w5 _
      · simp only [sI_wI, true_and, and_self, if_true]
      · refine ⟨g, ?_, ?_, ?_, ?_, ?_, fun j hj => ?_, fun j r hr => ?_⟩
        · simp only [sC_wI, sC_wR]; rw [w5]; exact z1
        · simp only [sR_wI, sR_wR, hfg, false_and, if_false]; exact hd1
        · simp only [sN_wI, sN_wR]; rw [w4]; omega
        · simp only [sN_wI, sN_wR]; rw [w4]; omega
        · simp only [sN_wI, sN_wR]; rw [w4]; omega
        · rw [sR_wI, sR_wR]
          unfold elU
          by_cases e0 : j = n
          · rw [if_pos ⟨rfl, rfl, e0⟩, if_pos e0]
          · rw [if_neg (fun z => e0 z.2.2), if_neg e0, w3]
            exact z6 j (by omega)
        · rw [sR_wI, sR_wR] at hr
          by_cases e0 : j = n
          · rw [if_pos ⟨rfl, rfl, e0⟩] at hr
            cases hr; rw [hcm]; exact hc
          · rw [if_neg (fun z => e0 z.2.2), w3] at hr
            exact z7 j r hr
/-- the lists as lists -/
theorem t_lsSize {E : awE} {S : awS} {Q : Option Value → awS → Nat → Nat → Prop} {q n : Nat} {el : Nat → Nat} (hq : q < 9) (hC : sC S (32 + q) = 1) (hK : sK S q = (n, el)) (hn : n < 1000000) (h : Q (some (.int (nI n))) S 0 0) : awT true E m_Jx4a65c_size_8abf5 [.ref (nm (32 + q) 0)] S Q :=
  awT.lift h awUp_rf fun S0 hh _ _ => l_size (fK_32 q hq) ⟨by
    have hk := (hh.2.2.2.1 q hq hC (by rw [hK]; show n < 1000001; omega)).1
    rw [hK] at hk
    rw [hk]
    show some (Value.int (nI (n % 1000000))) = _
    rw [Nat.mod_eq_of_lt hn], hh, rfl, rfl, fun v hv => by cases hv; exact trivial⟩
theorem t_lsGet {E : awE} {S : awS} {Q : Option Value → awS → Nat → Nat → Prop} {q n j : Nat} {el : Nat → Nat} (hq : q < 9) (hC : sC S (32 + q) = 1) (hK : sK S q = (n, el)) (hn : n < 1000) (hj : j < n) (h : Q (some (.ref (el j))) S 0 0) : awT true E m_Jx4a65c_get_915e3 [.ref (nm (32 + q) 0), .int (nI j)] S Q :=
  awT.lift h awUp_rf fun S0 hh _ _ => by
    have hk := hh.2.2.2.1 q hq hC (by rw [hK]; show n < 1000001; omega)
    rw [hK] at hk
    have hk1 : sI S0 (32 + q) 0 2 = nI n := by have := hk.1; rw [Nat.mod_eq_of_lt (by show n < 1000000; omega)] at this; exact this
    rcases hk.2.2 with (⟨z1, _⟩ | z1) | ⟨g, z1, z2, z3, z4, z5, z6, z7⟩
    · exact absurd (show n = 0 from z1) (by omega)
    · exact absurd (show n = 1000000 from z1) (by omega)
    · have z3 : n ≤ sN S0 (48 + q) g := z3
      have z5 : sN S0 (48 + q) g ≤ 10 + 2 * n := z5
      refine l_get (fK_32 q hq) (fK_48 q hq) z2 (vp_in_nI (by omega) (by omega)) (nI_nn (by omega)) (by rw [hk1]; exact nI_lt hj (by omega)) ?_
      rw [nI_clamp (by omega), z6 j hj]
      exact ⟨rfl, hh, rfl, rfl, fun v hv => by cases hv; exact hk.2.1 j hj⟩
theorem t_lsAdd {E : awE} {S : awS} {Q : Option Value → awS → Nat → Nat → Prop} {q n c i : Nat} {el : Nat → Nat} (hq : q < 9) (hC : sC S (32 + q) = 1) (hK : sK S q = (n, el)) (hn : n < 1000) (hc : fK c < 14) (hc2 : c < 256) (h : Q (some (.int 1)) (wK S q (n + 1, elU el n (nm c i))) 1 (2 * n + 12)) : awT true E m_Jx4a65c_add_9ea2d [.ref (nm (32 + q) 0), .ref (nm c i)] S Q :=
  awT.lift h awUp_rf fun S0 hh _ hl => l_add hh hq hC hK hn (hl _ (List.mem_cons_of_mem _ List.mem_cons_self)) hc hc2
theorem ax_newLst {E : awE} {M : awM} {pc : Nat} {lv : List (Nat × Value)} {st : List Value} {S : awS} {kc ks idx q : Nat} {Q : Option Value → awS → Nat → Nat → Prop} (hd : decode (awM_c M) pc = .ok (.new idx, 3)) (hw : awCls (awM_y M).cls idx 0) (hq : q < 9) (h0 : sC S (32 + q) = 0)
    (kk : awX true E M (pc + 3) lv (.ref (nm (32 + q) 0) :: st) (wK (wNew S (32 + q) 0) q (1000000, fun _ => nm (32 + q) 0)) (kc + 1) (ks + 3) Q) : awX true E M pc lv st S kc ks Q := by
  obtain ⟨hc, w1, w2, w3⟩ := hw
  have hf := fK_32 q hq
  have hff : 32 + q < 125 ∧ 32 + q < 256 := by omega
  have hup : ∀ m, lvN S m → lvN (wK (wNew S (32 + q) 0) q (1000000, fun _ => nm (32 + q) 0)) m := fun m hm => (lvN_new (S := S) (f := 32 + q) (n := 0) hff.2).mpr (Or.inl hm)
  have hnew : lvN (wK (wNew S (32 + q) 0) q (1000000, fun _ => nm (32 + q) 0)) (nm (32 + q) 0) := by
    have := (lvN_new (S := S) (f := 32 + q) (n := 0) (m := nm (32 + q) 0) hff.2).mpr (Or.inr (by rw [h0]))
    exact this
  refine awX.step hup (Nat.le_add_right _ _) (Nat.le_add_right _ _) (fun p e R s m args below meth c0 H locs ad ls Z hC wf hR hlo hls _ _ hcc hss kk => ?_) kk
  have hKn := hC.2.2.2.2.2.2.2.1.1.1 0 _ (oCl_at 0 hc)
  have hts := hC.2.2.2.2.2.2.1
  refine W.newcK hC.1 hC.2.1 hC.2.2.2.2.2.1 (hts _ w1) (hts _ w2) (hts _ w3) rfl hd hcc hss hKn.2.1 rfl fun H1 kC hkC e1 z1 o1 => ?_
  have hag : awAg S ad (adN ad (nm (32 + q) 0) H.size) := by have := awAg_new (S := S) (ad := ad) (f := 32 + q) (a := H.size) hff.2; rw [h0] at this; exact this
  have up : ∀ v, lvV S v → lvV (wK (wNew S (32 + q) 0) q (1000000, fun _ => nm (32 + q) 0)) v := fun v h => h.up hup
  have k2 := kk H1 locs (adN ad (nm (32 + q) 0) H.size) ls hag ⟨fun q hq => up _ (wf.1 q hq), fun v hv => (List.mem_cons.mp hv).elim (fun e => by rw [e]; exact hnew) (fun h => up _ (wf.2 v h))⟩ ?_ hlo (by rw [lvm_ag hag wf.1]; exact hls)
  · rw [List.map_cons, st_ag hag wf.2] at k2
    have e0 : rnv (adN ad (nm (32 + q) 0) H.size) (.ref (nm (32 + q) 0)) = .ref H.size := congrArg Value.ref (if_pos rfl)
    rw [e0] at k2
    exact k2
  · obtain ⟨S0, hh, r0⟩ := hR
    have hC0 : sC S0 (32 + q) = 0 := by rw [hh.2.1 _ (by omega)]; exact h0
    have hr := awR0_new (n := 0) (H1 := H1) r0 (Or.inl hff.1) hff.2 z1 o1 (by
      rw [awCell_obj hf hc]
      refine ⟨_, oCl_at 0 hc, (u_born (oTy 0) hts (oWs 0 hc) hKn hkC e1 (oTy_ok 0 hc)).to fun j hj => ?_⟩
      rw [vpV_fs hj, oDef 0 hc j hj]
      unfold fv
      rw [sI_wN, sL_wN, sR_wN, if_pos ⟨rfl, rfl⟩, if_pos ⟨rfl, rfl⟩, if_pos ⟨rfl, rfl⟩]
      rfl)
    rw [hC0] at hr
    refine ⟨_, ?_, hr⟩
    obtain ⟨a1, a2, a3, a4, a5⟩ := hh
    refine ⟨fun f hf => ?_, fun f hf => ?_, fun f b1 b2 => ?_, fun q' hq' hc' hk' => ?_, fun f i k r b1 b2 b3 => ?_⟩
    · obtain ⟨b1, b2, b3, b4⟩ := a1 f hf
      have e : ¬ f = 32 + q := by omega
      simp only [sI_wK, sL_wK, sR_wK, sN_wK, sI_wN, sL_wN, sR_wN, sN_wN, e, false_and, if_false]
      exact ⟨b1, b2, b3, b4⟩
    · rw [sC_wK, sC_wN, sC_wN, hC0, h0, a2 f hf]
    · rw [sC_wK, sC_wN, if_neg (by omega)]; exact a3 f b1 b2
    · rw [sK_wK] at hk' ⊢
      by_cases e1 : q' = q
      · subst e1
        rw [if_pos rfl] at hk' ⊢
        refine ⟨?_, fun j hj => hnew, Or.inl (Or.inr rfl)⟩
        rw [sI_wN, if_pos ⟨rfl, hC0.symm⟩]
        exact (congrArg nI (Nat.mod_self 1000000)).symm
      · rw [if_neg e1] at hk' ⊢
        rw [sC_wK, sC_wN, if_neg (by omega)] at hc'
        have b1 := a4 q' hq' hc' hk'
        simp only [sR_wN, sI_wN, sC_wN, sN_wN, sK_wN]
        rw [if_neg (by omega), if_neg (by omega), if_neg (show ¬ 48 + q' = 32 + q by omega)]
        refine ⟨b1.1, fun j hj => hup _ (b1.2.1 j hj), ?_⟩
        rcases b1.2.2 with z | ⟨g, z1, z2, z3, z4, z5, z6⟩
        · exact Or.inl z
        · refine Or.inr ⟨g, z1, z2, ?_, ?_, ?_, fun j hj => by rw [if_neg (by omega)]; exact z6.1 j hj, fun j r hr => by rw [if_neg (by omega)] at hr; exact z6.2 j r hr⟩ <;> rw [if_neg (by omega)] <;> assumption
    · rw [sR_wK, sR_wN, if_neg (by omega)] at b3
      rw [sC_wK, sC_wN, if_neg (by omega)] at b2
      exact hup _ (a5 f i k r b1 b2 b3)
theorem l_initA {b : Bool} {E : awE} {S : awS} {Q : Option Value → awS → Nat → Nat → Prop} {r : Nat} (h : Q none S 0 0) : awT b E m_Jxa1e45_init_da8c8 [.ref r] S Q := by
  refine awT.of (by decide) (by decide) (Nat.le_of_ble_eq_true rfl) ?_
  refine ax_aload_n (i := 0) dJxa1e45_init_da8c8_0 rfl rfl rfl ?_
  refine ax_objInit dJxa1e45_init_da8c8_1 ki_J_AbstractCollection_1 ko_1 ko_2 ⟨Nat.le_of_ble_eq_true rfl, Nat.le_of_ble_eq_true rfl⟩ (Nat.le_of_ble_eq_true rfl) ?_
  exact ax_vret dJxa1e45_init_da8c8_4 rfl h
theorem l_initB {E : awE} {S : awS} {Q : Option Value → awS → Nat → Nat → Prop} {f : Nat} (hf : fK f = 0) (h : Q none (wI S f 0 0 0) 0 0) : awT false E m_Jxc12de_init_da8c8 [.ref (nm f 0)] S Q := by
  refine awT.of (by decide) (by decide) (Nat.le_of_ble_eq_true rfl) ?_
  refine ax_aload_n (i := 0) dJxc12de_init_da8c8_0 rfl rfl rfl ?_
  refine ax_invI (n := 0) (As := []) dJxc12de_init_da8c8_1 cb_Jxa1e45_init_da8c8 ci_J_AbstractList_1.1 ci_J_AbstractList_1.2 rfl rfl rfl ⟨Nat.le_of_ble_eq_true rfl, Nat.le_of_ble_eq_true rfl⟩ (Nat.le_of_ble_eq_true rfl) rfl (l_initA ?_)
  refine ax_aload_n (i := 0) dJxc12de_init_da8c8_4 rfl rfl rfl ?_
  refine ax_iconst (v := 0) dJxc12de_init_da8c8_5 (by decide) ?_
  refine ax_putI dJxc12de_init_da8c8_6 fl_J_AbstractList_7 hf rfl rfl (Or.inl rfl) rfl rfl ?_
  exact ax_vret dJxc12de_init_da8c8_9 rfl h
theorem l_init {E : awE} {S : awS} {Q : Option Value → awS → Nat → Nat → Prop} {f : Nat} (hf : fK f = 0) (h : Q none (wR (wI S f 0 0 0) f 0 1 (some nmE)) 0 0) : awT false E m_Jx4a65c_init_da8c8 [.ref (nm f 0)] S Q := by
  refine awT.of (by decide) (by decide) (Nat.le_of_ble_eq_true rfl) ?_
  refine ax_aload_n (i := 0) dJx4a65c_init_da8c8_0 rfl rfl rfl ?_
  refine ax_invI (n := 0) (As := []) dJx4a65c_init_da8c8_1 cb_Jxc12de_init_da8c8 ci_J_1.1 ci_J_1.2 rfl rfl rfl ⟨Nat.le_of_ble_eq_true rfl, Nat.le_of_ble_eq_true rfl⟩ (Nat.le_of_ble_eq_true rfl) rfl (l_initB hf ?_)
  refine ax_aload_n (i := 0) dJx4a65c_init_da8c8_4 rfl rfl rfl ?_
  refine ax_getE dJx4a65c_init_da8c8_5 (awBig_tab (n := 48) (by decide +kernel) (by decide +kernel)) ?_
  refine ax_putR dJx4a65c_init_da8c8_8 fl_J_9 hf rfl rfl (Or.inl rfl) ?_
  exact ax_vret dJx4a65c_init_da8c8_11 rfl h
theorem t_lsInit {E : awE} {S : awS} {Q : Option Value → awS → Nat → Nat → Prop} {q : Nat} {el el0 : Nat → Nat} (hq : q < 9) (hC : sC S (32 + q) = 1) (hK : sK S q = (1000000, el0)) (h : Q none (wK S q (0, el)) 0 0) : awT true E m_Jx4a65c_init_da8c8 [.ref (nm (32 + q) 0)] S Q :=
  awT.lift h awUp_rf fun S0 hh hcl _ => by
    have hk := hh.2.2.2.1 q hq hC (by rw [hK]; show 1000000 < 1000001; omega)
    have hk1 : sI S0 (32 + q) 0 2 = nI 0 := by have := hk.1; rw [hK] at this; exact this.trans (congrArg nI (Nat.mod_self 1000000))
    refine l_init (fK_32 q hq) ⟨rfl, ?_, rfl, rfl, fun v hv => by cases hv⟩
    obtain ⟨a1, a2, a3, a4, a5⟩ := hh
    refine ⟨fun f hf => ?_, fun f hf => a2 f hf, a3, fun q' hq' hc' hk' => ?_, a5⟩
    · obtain ⟨b1, b2, b3, b4⟩ := a1 f hf
      have e : ¬ f = 32 + q := by omega
      simp only [sI_wI, sI_wR, sL_wI, sL_wR, sR_wI, sR_wR, sN_wI, sN_wR, sI_wK, sL_wK, sR_wK, sN_wK, e, false_and, if_false]
      exact ⟨b1, b2, b3, b4⟩
    · rw [sK_wK] at hk' ⊢
      by_cases e1 : q' = q
      · subst e1
        rw [if_pos rfl] at hk' ⊢
        refine ⟨?_, fun j hj => absurd hj (Nat.not_lt_zero j), Or.inl (Or.inl ⟨rfl, ?_⟩)⟩
        · rw [sI_wR, sI_wI, if_neg (by omega)]; exact hk1
        · rw [sR_wR, if_pos ⟨rfl, rfl, rfl⟩]
      · rw [if_neg e1] at hk' ⊢
        have b1 := a4 q' hq' hc' hk'
        have e2 : ¬ 32 + q' = 32 + q := by omega
        have e3 : ¬ 48 + q' = 32 + q := by omega
        simp only [sI_wI, sI_wR, sR_wI, sR_wR, sN_wI, sN_wR, sC_wI, sC_wR, e2, e3, false_and, if_false]
        exact b1

