theorem fl_J_63 : Cond.fieldLink "java/util/ArrayList" 63 "java/util/ArrayList" "modCount" "I" ∈ awBig := awBig_tab (n := 53) (by decide +kernel) (by decide +kernel)
theorem fs_J_63 : Cond.sameField "java/util/ArrayList" "java/util/AbstractList" "modCount" "I" ∈ awBig := awBig_tab (n := 54) (by decide +kernel) (by decide +kernel)
theorem fl_J_AbstractList_7 : awFld "java/util/AbstractList" 7 0 0 := ⟨by decide, by decide, awBig_tab (n := 52) (by decide +kernel) (by decide +kernel)⟩
section WID
variable {b : Bool} {E : awE} {M : awM} {pc : Nat} {lv lv' : List (Nat × Value)} {st : List Value} {S : awS} {kc ks : Nat} {Q : Option Value → awS → Nat → Nat → Prop}
theorem ax_widen {kc' ks' : Nat} (h1 : kc ≤ kc') (h2 : ks ≤ ks') (k : awX b E M pc lv st S kc' ks' Q) : awX b E M pc lv st S kc ks Q := by
  obtain ⟨r, S', mc, ms, hQ, a1, a2, hu, hk⟩ := k
  exact ⟨r, S', mc, ms, hQ, Nat.le_trans h1 a1, Nat.le_trans h2 a2, hu, fun p e R s m args below meth c hC hf hl hcc hss Qc H locs ad ls wf hR hlo hls hq => W.widen h1 h2 (hk p e R s m args below meth c hC hf hl hcc hss Qc H locs ad ls wf hR hlo hls hq)⟩
/-- the count of changes, under the name that the list's own class gives it -/
theorem ax_getMC {f : Nat} (hd : decode (awM_c M) pc = .ok (.getfield 63, 3)) (hy : (awM_y M).cls = "java/util/ArrayList") (hf : fK f = 0) (hb : nb b f = true) (kk : awX b E M (pc + 3) lv (.int (sI S f 0 0) :: st) S kc ks Q) : awX b E M pc lv (.ref (nm f 0) :: st) S kc ks Q := by
  have hk : 0 < (oCl 0).2.2 := by decide
  refine awX.step awUp_rf (Nat.le_refl _) (Nat.le_refl _) (fun p e R s m args below meth c0 H locs ad ls Z hC wf hR hlo hls _ _ _ _ kk => ?_) kk
  have hff := fK_obj (f := f) (by rw [hf]; decide)
  have hl : lvN S (nm f 0) := wf.top
  have hat := (awR_at hR hff.1 hff.2 hb hl).2
  rw [awCell_obj hf (by decide)] at hat
  have k2 := kk H locs ad ls awAg_rf (wf.pop.pi (x := sI S f 0 0)) hR hlo hls
  have hl2 : Cond.fieldLink (awM_y M).cls 63 "java/util/ArrayList" ((oCl 0).2.1 0).2.1 ((oCl 0).2.1 0).2.2.1 ∈ awBig := by rw [hy]; exact fl_J_63
  exact va_get (D := awE_D E) (cl := vwCl) hC.1 hC.2.1 hC.2.2.2.2.2.2.1 (oWs 0 (by decide)) hC.2.2.2.2.2.1 hC.2.2.2.2.2.2.2.1.1 (va_P1 hat) 0 rfl (oCl_at 0 (by decide)) 0 hk (hC.2.2.2.2.2.2.1 _ hl2) (fun x hx => u_same (hC.2.2.2.2.2.2.1 _ fs_J_63) x hx) (fs_get hk) hd k2
theorem ax_putMC {f : Nat} {x : Int32} (hd : decode (awM_c M) pc = .ok (.putfield 63, 3)) (hy : (awM_y M).cls = "java/util/ArrayList") (hf : fK f = 0) (hb : nb b f = true) (kk : awX b E M (pc + 3) lv st (wI S f 0 0 x) kc ks Q) : awX b E M pc lv (.int x :: .ref (nm f 0) :: st) S kc ks Q := by
  have hk : 0 < (oCl 0).2.2 := by decide
  have hc : 0 < 14 := by decide
  refine awX.step (S1 := wI S f 0 0 x) (fun n h => h) (Nat.le_refl _) (Nat.le_refl _) (fun p e R s m args below meth c0 H locs ad ls Z hC wf hR hlo hls _ _ _ _ kk => ?_) kk
  have hff := fK_obj (f := f) (by rw [hf]; decide)
  have hl : lvN S (nm f 0) := wf.pop.top
  obtain ⟨hlo1, hat⟩ := awR_at hR hff.1 hff.2 hb hl
  rw [awCell_obj hf (by decide)] at hat
  have wf' : awWf (wI S f 0 0 x) lv st := ⟨fun q hq => wf.1 q hq, fun q hq => wf.pop.pop.2 q hq⟩
  have hK := hC.2.2.2.2.2.2.2.1.1
  have hts := hC.2.2.2.2.2.2.1
  have hin := oWs 0 hc
  have hap := va_apart (own := (awM_y M).cls) hts hin (oTy 0) (oTy_ok 0 hc) (oNm 0 hc) hK (oCl_at 0 hc)
  obtain ⟨r, h1, cell, q1, q2, q3, q4⟩ := hat
  have hr : r = ((oCl 0).1, (oCl 0).2.1, (oCl 0).2.2) := Option.some.inj (h1.symm.trans (oCl_at 0 hc))
  subst hr
  obtain ⟨hS, hfc, kC, hkC, hkind⟩ := hK.1 0 _ (oCl_at 0 hc)
  obtain ⟨cf, kf, fi, fd, hi, hsl⟩ := hS 0 hk
  have hlay := hts _ (hin _ (u_in_lay hk))
  have hst := (u_facts hfc hkC (u_lays hts hin hk) hi).1
  have hl2 : Cond.fieldLink (awM_y M).cls 63 "java/util/ArrayList" ((oCl 0).2.1 0).2.1 ((oCl 0).2.1 0).2.2.1 ∈ awBig := by rw [hy]; exact fl_J_63
  have fin : ∀ H' : Heap, H'[ad (nm f 0)]? = some (cell.setSlot fd.slot (.int x)) → H'.size = H.size → (∀ q, q ≠ ad (nm f 0) → H'[q]? = H[q]?) → W p (awE_l E) e R s m args below meth c0 H' (locs ++ [⟨ad (nm f 0), fd.slot⟩]) kc ks Z (F0 m (pc + 3) ls (st.map (rnv ad))) := by
    intro H' e1 e2 e3
    rw [hsl] at e1
    refine kk H' _ ad ls awAg_rf wf' (awR_wI hR hff.1 hff.2 hb hl ?_ e2 e3) (fun q hq => ?_) hls
    · rw [awCell_obj hf hc]
      refine ⟨_, oCl_at 0 hc, t_OB.to (V := updV (vp_V (fs ad S f 0 0)) 0 (.int x)) ⟨_, e1, q2, q3, t_set q4 hap hk (.int x)⟩ (fun j hj => ?_)⟩
      rw [vpV_fs hj]
      unfold updV
      rw [vpV_fs hj]
      unfold fv
      by_cases e : j = 0
      · subst e
        rw [if_pos rfl]
        show Value.int (sI (wI S f 0 0 x) f 0 0) = _
        rw [sI_wI, if_pos ⟨rfl, rfl, rfl⟩]
      · rw [if_neg e, sI_wI, if_neg (fun z => e z.2.2)]; rfl
    · rcases List.mem_append.mp hq with h | h
      · exact hlo q h
      · rw [List.mem_singleton.mp h]; exact hlo1
  unfold u_lay at hlay
  rw [if_neg (by decide)] at hlay
  have h6 := u_store hfc hkC hkind hlay hi (oTy_ok 0 hc 0 hk) (show narrow (oTy 0 0) (.int x) = .int x from rfl) (show fits (oTy 0 0) (.int x) = true from rfl)
  exact W.putK hC.1 hC.2.1 (f := fd) ⟨hC.2.2.2.2.2.1, hts _ hl2, ⟨_, _, _, u_same (hts _ fs_J_63) _ hi⟩, hst⟩ (by rw [q2]; exact h6) q1 q3 (by rw [hsl]; exact k2_hasslot (q4 0 hk)) rfl rfl hd fin
end WID
/-- a contract over the lists as they lie, as one over the lists -/
theorem awT.lift {E : awE} {m : awM} {As : List Value} {S S' : awS} {r : Option Value} {mc ms : Nat} {Q : Option Value → awS → Nat → Nat → Prop} (hQ : Q r S' mc ms) (hup : awUp S S') (hrl : ∀ v, r = some v → lvV S' v)
    (h : ∀ S0, awHid S S0 → (∀ f i k r, i < sC S0 f → sR S0 f i k = some r → lvN S0 r) → (∀ v ∈ As, lvV S v) → awT false E m As S0 (fun r' S0' mc' ms' => r' = r ∧ awHid S' S0' ∧ mc' = mc ∧ ms' = ms)) : awT true E m As S Q := by
  refine ⟨r, S', mc, ms, hQ, hup, fun ad hl => ?_⟩
  intro p e hadm hf hc s mm args below hfr happ hP hK
  obtain ⟨ha, ⟨S0, hh, h0⟩, hK2⟩ := hP
  obtain ⟨r', S0', mc', ms', ⟨rfl, hh', rfl, rfl⟩, hu0, hM⟩ := h S0 hh h0.2.2.2.2.1 hl
  have hlv : ∀ v, lvV S v → lvV S0 v := fun v hv => by cases v <;> first | exact hh.lv hv | exact hv
  obtain ⟨n, o, b1, b2, b3, ⟨ad', c1, c2, c3, c4⟩, b5⟩ := hM ad (fun v hv => hlv v (hl v hv)) p e hadm hf hc s mm args below hfr happ ⟨ha, h0, hK2⟩ hK
  exact ⟨n, o, b1, b2, b3, ⟨ad', fun m hm => c1 m (hh.lv hm), c2, ⟨S0', hh', c3⟩, hrl⟩, b5⟩

set_option maxHeartbeats 4000000 in
set_option maxRecDepth 100000 in
theorem t_imax {b : Bool} {E : awE} {S : awS} {Q : Option Value → awS → Nat → Nat → Prop} {x y : Int32} (h1 : x < y → Q (some (.int y)) S 0 0) (h0 : ¬ x < y → Q (some (.int x)) S 0 0) : awT b E m_J9_max_7cf53 [.int x, .int y] S Q := by
  refine awT.of (by decide) (by decide) (Nat.le_of_ble_eq_true rfl) ?_
  refine ax_iload_n (i := 0) dJ9_max_7cf53_0 rfl rfl ?_
  refine ax_iload_n (i := 1) dJ9_max_7cf53_1 rfl rfl ?_
  refine ax_icmp_lt (tgt := 9) dJ9_max_7cf53_2 (by decide) (fun c_2 => ?_) (fun c_2 => ?_)
  · refine ax_iload_n (i := 1) dJ9_max_7cf53_9 rfl rfl ?_
    refine ax_iret dJ9_max_7cf53_10 rfl rfl ?_
    exact h1 c_2
  · refine ax_iload_n (i := 0) dJ9_max_7cf53_5 rfl rfl ?_
    refine ax_goto (tgt := 10) dJ9_max_7cf53_6 (by decide) ?_
    refine ax_iret dJ9_max_7cf53_10 rfl rfl ?_
    exact h0 c_2
set_option maxHeartbeats 4000000 in
set_option maxRecDepth 100000 in
theorem t_imin {b : Bool} {E : awE} {S : awS} {Q : Option Value → awS → Nat → Nat → Prop} {x y : Int32} (h1 : y < x → Q (some (.int y)) S 0 0) (h0 : ¬ y < x → Q (some (.int x)) S 0 0) : awT b E m_J9_min_7cf53 [.int x, .int y] S Q := by
  refine awT.of (by decide) (by decide) (Nat.le_of_ble_eq_true rfl) ?_
  refine ax_iload_n (i := 0) dJ9_min_7cf53_0 rfl rfl ?_
  refine ax_iload_n (i := 1) dJ9_min_7cf53_1 rfl rfl ?_
  refine ax_icmp_gt (tgt := 9) dJ9_min_7cf53_2 (by decide) (fun c_2 => ?_) (fun c_2 => ?_)
  · refine ax_iload_n (i := 1) dJ9_min_7cf53_9 rfl rfl ?_
    refine ax_iret dJ9_min_7cf53_10 rfl rfl ?_
    exact h1 c_2
  · refine ax_iload_n (i := 0) dJ9_min_7cf53_5 rfl rfl ?_
    refine ax_goto (tgt := 10) dJ9_min_7cf53_6 (by decide) ?_
    refine ax_iret dJ9_min_7cf53_10 rfl rfl ?_
    exact h0 c_2
set_option maxHeartbeats 4000000 in
set_option maxRecDepth 100000 in
theorem t_lmax {b : Bool} {E : awE} {S : awS} {Q : Option Value → awS → Nat → Nat → Prop} {x y : Int64} (h1 : x < y → Q (some (.long y)) S 0 0) (h0 : ¬ x < y → Q (some (.long x)) S 0 0) : awT b E m_J9_max_f86c9 [.long x, .long y] S Q := by
  refine awT.of (by decide) (by decide) (Nat.le_of_ble_eq_true rfl) ?_
  refine ax_lload_n (i := 0) dJ9_max_f86c9_0 rfl rfl ?_
  refine ax_lload_n (i := 2) dJ9_max_f86c9_1 rfl rfl ?_
  refine ax_lcmp dJ9_max_f86c9_2 ?_
  refine ax_if_lt (tgt := 10) dJ9_max_f86c9_3 (by decide) (fun c_3 => ?_) (fun c_3 => ?_)
  · refine ax_lload_n (i := 2) dJ9_max_f86c9_10 rfl rfl ?_
    refine ax_lret dJ9_max_f86c9_11 rfl ?_
    exact h1 ((lg_cmp_lt _ _).mp c_3)
  · refine ax_lload_n (i := 0) dJ9_max_f86c9_6 rfl rfl ?_
    refine ax_goto (tgt := 11) dJ9_max_f86c9_7 (by decide) ?_
    refine ax_lret dJ9_max_f86c9_11 rfl ?_
    exact h0 (fun z => c_3 ((lg_cmp_lt _ _).mpr z))
set_option maxHeartbeats 4000000 in
set_option maxRecDepth 100000 in
theorem t_labs {b : Bool} {E : awE} {S : awS} {Q : Option Value → awS → Nat → Nat → Prop} {x : Int64} (h1 : x < 0 → Q (some (.long (-x))) S 0 0) (h0 : ¬ x < 0 → Q (some (.long x)) S 0 0) : awT b E m_J9_abs_067f4 [.long x] S Q := by
  refine awT.of (by decide) (by decide) (Nat.le_of_ble_eq_true rfl) ?_
  refine ax_lload_n (i := 0) dJ9_abs_067f4_0 rfl rfl ?_
  refine ax_lconst (v := 0) dJ9_abs_067f4_1 (by decide) ?_
  refine ax_lcmp dJ9_abs_067f4_2 ?_
  refine ax_if_ge (tgt := 11) dJ9_abs_067f4_3 (by decide) (fun c_3 => ?_) (fun c_3 => ?_)
  · refine ax_lload_n (i := 0) dJ9_abs_067f4_11 rfl rfl ?_
    refine ax_lret dJ9_abs_067f4_12 rfl ?_
    exact h0 (fun z => Int32.not_lt.mpr c_3 ((lg_cmp_lt _ _).mpr z))
  · refine ax_lload_n (i := 0) dJ9_abs_067f4_6 rfl rfl ?_
    refine ax_lneg dJ9_abs_067f4_7 ?_
    refine ax_goto (tgt := 12) dJ9_abs_067f4_8 (by decide) ?_
    refine ax_lret dJ9_abs_067f4_12 rfl ?_
    exact h1 ((lg_cmp_lt _ _).mp (Int32.not_le.mp c_3))
set_option maxHeartbeats 4000000 in
set_option maxRecDepth 100000 in
theorem t_chk3 {b : Bool} {E : awE} {S : awS} {Q : Option Value → awS → Nat → Nat → Prop} {x n : Int32} (h0 : 0 ≤ x) (h1 : x < n) (h : Q (some (.int x)) S 0 0) : awT b E m_J3_checkIndex_8e157 [.int x, .int n, .null] S Q := by
  refine awT.of (by decide) (by decide) (Nat.le_of_ble_eq_true rfl) ?_
  refine ax_iload_n (i := 0) dJ3_checkIndex_8e157_0 rfl rfl ?_
  refine ax_if_lt (tgt := 9) dJ3_checkIndex_8e157_1 (by decide) (fun c => absurd c (Int32.not_lt.mpr h0)) (fun _ => ?_)
  refine ax_iload_n (i := 0) dJ3_checkIndex_8e157_4 rfl rfl ?_
  refine ax_iload_n (i := 1) dJ3_checkIndex_8e157_5 rfl rfl ?_
  refine ax_icmp_lt (tgt := 16) dJ3_checkIndex_8e157_6 (by decide) (fun _ => ?_) (fun c => absurd h1 c)
  refine ax_iload_n (i := 0) dJ3_checkIndex_8e157_16 rfl rfl ?_
  exact ax_iret dJ3_checkIndex_8e157_17 rfl rfl h
theorem t_chk {b : Bool} {E : awE} {S : awS} {Q : Option Value → awS → Nat → Nat → Prop} {x n : Int32} (h0 : 0 ≤ x) (h1 : x < n) (h : Q (some (.int x)) S 0 0) : awT b E m_J15_checkIndex_7cf53 [.int x, .int n] S Q := by
  refine awT.of (by decide) (by decide) (Nat.le_of_ble_eq_true rfl) ?_
  refine ax_iload_n (i := 0) dJ15_checkIndex_7cf53_0 rfl rfl ?_
  refine ax_iload_n (i := 1) dJ15_checkIndex_7cf53_1 rfl rfl ?_
  refine ax_null dJ15_checkIndex_7cf53_2 ?_
  refine ax_invS (n := 3) (As := [_, _, _]) dJ15_checkIndex_7cf53_3 cb_J3_checkIndex_8e157 cs_J_Objects_105.1 cs_J_Objects_105.2 rfl ⟨Nat.le_of_ble_eq_true rfl, Nat.le_of_ble_eq_true rfl⟩ (Nat.le_of_ble_eq_true rfl) rfl (t_chk3 h0 h1 ?_)
  exact ax_iret dJ15_checkIndex_7cf53_6 rfl rfl h
theorem l_size {E : awE} {S : awS} {Q : Option Value → awS → Nat → Nat → Prop} {f : Nat} (hf : fK f = 0) (h : Q (some (.int (sI S f 0 2))) S 0 0) : awT false E m_Jx4a65c_size_8abf5 [.ref (nm f 0)] S Q := by
  refine awT.of (by decide) (by decide) (Nat.le_of_ble_eq_true rfl) ?_
  refine ax_aload_n (i := 0) dJx4a65c_size_8abf5_0 rfl rfl rfl ?_
  refine ax_getI dJx4a65c_size_8abf5_1 fl_J_48 hf rfl rfl ?_
  exact ax_iret dJx4a65c_size_8abf5_4 rfl rfl h
theorem l_data {E : awE} {S : awS} {Q : Option Value → awS → Nat → Nat → Prop} {f g i : Nat} {x : Int32} (hf : fK f = 0) (hg : fK g = 25) (hd : sR S f 0 1 = some (nm g i)) (hin : vp_in x (sN S g i)) (h : Q (some (va_rf (sR S g i x.toNatClampNeg))) S 0 0) : awT false E m_Jx4a65c_elementData_915e3 [.ref (nm f 0), .int x] S Q := by
  refine awT.of (by decide) (by decide) (Nat.le_of_ble_eq_true rfl) ?_
  refine ax_aload_n (i := 0) dJx4a65c_elementData_915e3_0 rfl rfl rfl ?_
  refine ax_getR dJx4a65c_elementData_915e3_1 fl_J_9 hf rfl rfl hd ?_
  refine ax_iload_n (i := 1) dJx4a65c_elementData_915e3_4 rfl rfl ?_
  refine ax_oald dJx4a65c_elementData_915e3_5 hg rfl hin rfl ?_
  exact ax_aret dJx4a65c_elementData_915e3_6 rfl (Or.inl ⟨_, rfl⟩) h
theorem l_get {E : awE} {S : awS} {Q : Option Value → awS → Nat → Nat → Prop} {f g i : Nat} {x : Int32} (hf : fK f = 0) (hg : fK g = 25) (hd : sR S f 0 1 = some (nm g i)) (hin : vp_in x (sN S g i)) (h0 : 0 ≤ x) (h1 : x < sI S f 0 2) (h : Q (some (va_rf (sR S g i x.toNatClampNeg))) S 0 0) : awT false E m_Jx4a65c_get_915e3 [.ref (nm f 0), .int x] S Q := by
  refine awT.of (by decide) (by decide) (Nat.le_of_ble_eq_true rfl) ?_
  refine ax_iload_n (i := 1) dJx4a65c_get_915e3_0 rfl rfl ?_
  refine ax_aload_n (i := 0) dJx4a65c_get_915e3_1 rfl rfl rfl ?_
  refine ax_getI dJx4a65c_get_915e3_2 fl_J_48 hf rfl rfl ?_
  refine ax_invS (n := 2) (As := [_, _]) dJx4a65c_get_915e3_5 cb_J15_checkIndex_7cf53 cs_J_118.1 cs_J_118.2 rfl ⟨Nat.le_of_ble_eq_true rfl, Nat.le_of_ble_eq_true rfl⟩ (Nat.le_of_ble_eq_true rfl) rfl (t_chk h0 h1 ?_)
  refine ax_pop dJx4a65c_get_915e3_8 rfl ?_
  refine ax_aload_n (i := 0) dJx4a65c_get_915e3_9 rfl rfl rfl ?_
  refine ax_iload_n (i := 1) dJx4a65c_get_915e3_10 rfl rfl ?_
  refine ax_invV (c := 0) (n := 1) (As := [_]) dJx4a65c_get_915e3_11 cb_Jx4a65c_elementData_915e3 cv_J_123.1 cv_J_123.2.1 cv_J_123.2.2 hf (by decide) rfl ⟨Nat.le_of_ble_eq_true rfl, Nat.le_of_ble_eq_true rfl⟩ (Nat.le_of_ble_eq_true rfl) rfl (l_data hf hg hd hin ?_)
  exact ax_aret dJx4a65c_get_915e3_14 rfl (Or.inl ⟨_, rfl⟩) h
theorem t_newLen {b : Bool} {E : awE} {S : awS} {Q : Option Value → awS → Nat → Nat → Prop} {c y : Nat} (h1 : 1 ≤ y) (hc : c + y ≤ 100000) (h : Q (some (.int (nI (c + y)))) S 0 0) : awT b E m_J8_newLength_cabcc [.int (nI c), .int 1, .int (nI y)] S Q := by
  refine awT.of (by decide) (by decide) (Nat.le_of_ble_eq_true rfl) ?_
  refine ax_iload_n (i := 0) dJ8_newLength_cabcc_0 rfl rfl ?_
  refine ax_iload_n (i := 1) dJ8_newLength_cabcc_1 rfl rfl ?_
  refine ax_iload_n (i := 2) dJ8_newLength_cabcc_2 rfl rfl ?_
  have key : awX b E m_J8_newLength_cabcc 6 [(0, .int (nI c)), (1, .int 1), (2, .int (nI y))] [.int (nI y), .int (nI c)] S 0 0 Q := by
    refine ax_iaddN dJ8_newLength_cabcc_6 ?_
    refine ax_istore_n (i := 3) (lv' := [(3, _), (0, _), (1, _), (2, _)]) dJ8_newLength_cabcc_7 rfl (by decide) rfl ?_
    refine ax_iconst (v := 0) dJ8_newLength_cabcc_8 (by decide) ?_
    refine ax_iload_n (i := 3) dJ8_newLength_cabcc_9 rfl rfl ?_
    refine ax_icmp_ge (tgt := 21) dJ8_newLength_cabcc_10 (by decide) (fun c_10 => absurd c_10 (Int32.not_le.mpr (nI_lt (a := 0) (by omega) (by omega)))) (fun _ => ?_)
    refine ax_iload_n (i := 3) dJ8_newLength_cabcc_13 rfl rfl ?_
    refine ax_ldc dJ8_newLength_cabcc_14 kc_J_ArraysSupport_200 ?_
    refine ax_icmp_gt (tgt := 21) dJ8_newLength_cabcc_16 (by decide) (fun c_16 => absurd c_16 (Int32.not_lt.mpr (nI_le (b := 2147483639) (by omega) (by decide)))) (fun _ => ?_)
    refine ax_iload_n (i := 3) dJ8_newLength_cabcc_19 rfl rfl ?_
    exact ax_iret dJ8_newLength_cabcc_20 rfl rfl h
  refine ax_invS (n := 2) (As := [_, _]) dJ8_newLength_cabcc_3 cb_J9_max_7cf53 cs_J_ArraysSupport_194.1 cs_J_ArraysSupport_194.2 rfl ⟨Nat.le_of_ble_eq_true rfl, Nat.le_of_ble_eq_true rfl⟩ (Nat.le_of_ble_eq_true rfl) rfl (t_imax (fun _ => key) (fun c2 => ?_))
  have e : y = 1 := by
    have := Int32.not_lt.mp c2
    by_cases e2 : y = 1
    · exact e2
    · exact absurd (nI_lt (a := 1) (b := y) (by omega) (by omega)) c2
  subst e
  exact key
theorem l_copy3 {E : awE} {S : awS} {Q : Option Value → awS → Nat → Nat → Prop} {g i c n : Nat} (hg : fK g = 25) (hc : sN S g i = c) (hl : i < sC S g) (hcn : c ≤ n) (hn : n ≤ 100000) (hel : ∀ k r, sR S g i k = some r → fK (r % 256) < 14) (h : Q (some (.ref (nm g (sC S g)))) (wRf (wNew S g n) g (sC S g) (va_cpy (sR (wNew S g n) g i) (sR (wNew S g n) g (sC S g)) 0 0 c)) 1 n) : awT false E m_J7_copyOf_6403c [.ref (nm g i), .int (nI n), .ref nmC] S Q := by
  have hne : ¬ (i = sC S g) := by omega
  have hNo : sN (wNew S g n) g i = c := by rw [sN_wN, if_neg (fun z => hne z.2), hc]
  have hNn : sN (wNew S g n) g (sC S g) = n := by rw [sN_wN, if_pos ⟨rfl, rfl⟩]
  have hel2 : ∀ k r, sR (wNew S g n) g i k = some r → fK (r % 256) < 14 := fun k r hr => hel k r (by rw [sR_wN, if_neg (fun z => hne z.2)] at hr; exact hr)
  refine awT.of (by decide) (by decide) (Nat.le_of_ble_eq_true rfl) ?_
  refine ax_aload_n (i := 2) dJ7_copyOf_6403c_0 rfl rfl rfl ?_
  refine ax_ldcC dJ7_copyOf_6403c_1 kl_J_Arrays_110 ?_
  refine ax_acmp_ne (tgt := 13) dJ7_copyOf_6403c_3 (by decide) rfl rfl (Or.inl rfl) (fun c => absurd rfl c) (fun _ => ?_)
  refine ax_iload_n (i := 1) dJ7_copyOf_6403c_6 rfl rfl ?_
  refine ax_newO (f := g) (n := n) dJ7_copyOf_6403c_7 kl_J_Arrays_2 hg rfl (Int32.not_lt.mpr (nI_nn (by omega))) (nI_clamp (by omega)) (by omega) ?_
  refine ax_goto (tgt := 24) dJ7_copyOf_6403c_10 (by decide) ?_
  refine ax_astore_n (i := 3) (lv' := [(3, _), (0, _), (1, _), (2, _)]) dJ7_copyOf_6403c_24 rfl (by decide) rfl rfl ?_
  refine ax_aload_n (i := 0) dJ7_copyOf_6403c_25 rfl rfl rfl ?_
  refine ax_iconst (v := 0) dJ7_copyOf_6403c_26 (by decide) ?_
  refine ax_aload_n (i := 3) dJ7_copyOf_6403c_27 rfl rfl rfl ?_
  refine ax_iconst (v := 0) dJ7_copyOf_6403c_28 (by decide) ?_
  refine ax_aload_n (i := 0) dJ7_copyOf_6403c_29 rfl rfl rfl ?_
  refine ax_alen dJ7_copyOf_6403c_30 (by rw [hg]; decide) rfl ?_
  refine ax_iload_n (i := 1) dJ7_copyOf_6403c_31 rfl rfl ?_
  rw [hNo]
  refine ax_invS (n := 2) (As := [_, _]) dJ7_copyOf_6403c_32 cb_J9_min_7cf53 cs_J_Arrays_304.1 cs_J_Arrays_304.2 rfl ⟨Nat.le_of_ble_eq_true rfl, Nat.le_of_ble_eq_true rfl⟩ (Nat.le_of_ble_eq_true rfl) rfl (t_imin (fun c2 => absurd c2 (Int32.not_lt.mpr (nI_le hcn (by omega)))) (fun _ => ?_))
  have z0 : (0 : Int32).toNatClampNeg = 0 := rfl
  refine ax_copyO (n := nI c) dJ7_copyOf_6403c_35 kp_J_Arrays_150 hg hg hel2 (by decide) (by decide) (Int32.not_lt.mpr (nI_nn (by omega))) (by rw [hNo, nI_clamp (by omega), z0]; omega) (by rw [hNn, nI_clamp (by omega), z0]; omega) ⟨Nat.le_of_ble_eq_true rfl, Nat.le_of_ble_eq_true rfl⟩ (Nat.le_of_ble_eq_true rfl) ?_
  rw [nI_clamp (by omega), z0]
  refine ax_aload_n (i := 3) dJ7_copyOf_6403c_38 rfl rfl rfl ?_
  refine ax_aret (r := some (nm g (sC S g))) dJ7_copyOf_6403c_39 rfl (Or.inr ⟨_, rfl⟩) ?_
  rw [Nat.zero_add, Nat.zero_add]
  exact h
theorem l_copy2 {E : awE} {S : awS} {Q : Option Value → awS → Nat → Nat → Prop} {g i c n : Nat} (hg : fK g = 25) (hc : sN S g i = c) (hl : i < sC S g) (hcn : c ≤ n) (hn : n ≤ 100000) (hel : ∀ k r, sR S g i k = some r → fK (r % 256) < 14) (h : Q (some (.ref (nm g (sC S g)))) (wRf (wNew S g n) g (sC S g) (va_cpy (sR (wNew S g n) g i) (sR (wNew S g n) g (sC S g)) 0 0 c)) 1 n) : awT false E m_J7_copyOf_1904c [.ref (nm g i), .int (nI n)] S Q := by
  refine awT.of (by decide) (by decide) (Nat.le_of_ble_eq_true rfl) ?_
  refine ax_aload_n (i := 0) dJ7_copyOf_1904c_0 rfl rfl rfl ?_
  refine ax_iload_n (i := 1) dJ7_copyOf_1904c_1 rfl rfl ?_
  refine ax_aload_n (i := 0) dJ7_copyOf_1904c_2 rfl rfl rfl ?_
  refine ax_getC dJ7_copyOf_1904c_3 kg_1 kg_2 kg_3 kg_4 hg rfl ⟨Nat.le_of_ble_eq_true rfl, Nat.le_of_ble_eq_true rfl⟩ (Nat.le_of_ble_eq_true rfl) ?_
  refine ax_invS (n := 3) (As := [_, _, _]) dJ7_copyOf_1904c_6 cb_J7_copyOf_6403c cs_J_Arrays_300.1 cs_J_Arrays_300.2 rfl ⟨Nat.le_of_ble_eq_true rfl, Nat.le_of_ble_eq_true rfl⟩ (Nat.le_of_ble_eq_true rfl) rfl (l_copy3 hg hc hl hcn hn hel ?_)
  refine ax_aret (r := some (nm g (sC S g))) dJ7_copyOf_1904c_9 rfl (Or.inr ⟨_, rfl⟩) ?_
  rw [Nat.zero_add, Nat.zero_add]
  exact h
theorem l_growE {E : awE} {S : awS} {Q : Option Value → awS → Nat → Nat → Prop} {f g : Nat} (hf : fK f = 0) (hg : fK g = 25) (hd : sR S f 0 1 = some nmE) (h : Q (some (.ref (nm g (sC S g)))) (wR (wNew S g 10) f 0 1 (some (nm g (sC S g)))) 1 10) : awT false E m_Jx4a65c_grow_92f84 [.ref (nm f 0), .int (nI 1)] S Q := by
  refine awT.of (by decide) (by decide) (Nat.le_of_ble_eq_true rfl) ?_
  refine ax_aload_n (i := 0) dJx4a65c_grow_92f84_0 rfl rfl rfl ?_
  refine ax_getR dJx4a65c_grow_92f84_1 fl_J_9 hf rfl rfl hd ?_
  refine ax_elen dJx4a65c_grow_92f84_4 ?_
  refine ax_istore_n (i := 2) (lv' := [(2, _), (0, _), (1, _)]) dJx4a65c_grow_92f84_5 rfl (by decide) rfl ?_
  refine ax_iload_n (i := 2) dJx4a65c_grow_92f84_6 rfl rfl ?_
  refine ax_if_gt (tgt := 20) dJx4a65c_grow_92f84_7 (by decide) (fun c => absurd c (by decide)) (fun _ => ?_)
  refine ax_aload_n (i := 0) dJx4a65c_grow_92f84_10 rfl rfl rfl ?_
  refine ax_getR dJx4a65c_grow_92f84_11 fl_J_9 hf rfl rfl hd ?_
  refine ax_getE dJx4a65c_grow_92f84_14 (awBig_tab (n := 48) (by decide +kernel) (by decide +kernel)) ?_
  refine ax_acmp_eq (tgt := 45) dJx4a65c_grow_92f84_17 (by decide) rfl rfl (Or.inl rfl) (fun _ => ?_) (fun c => absurd rfl c)
  refine ax_aload_n (i := 0) dJx4a65c_grow_92f84_45 rfl rfl rfl ?_
  refine ax_bipush (v := 10) dJx4a65c_grow_92f84_46 (by decide) ?_
  refine ax_iload_n (i := 1) dJx4a65c_grow_92f84_48 rfl rfl ?_
  refine ax_invS (n := 2) (As := [_, _]) dJx4a65c_grow_92f84_49 cb_J9_max_7cf53 cs_J_79.1 cs_J_79.2 rfl ⟨Nat.le_of_ble_eq_true rfl, Nat.le_of_ble_eq_true rfl⟩ (Nat.le_of_ble_eq_true rfl) rfl (t_imax (fun c => absurd c (by decide)) (fun _ => ?_))
  refine ax_newO (f := g) (n := 10) dJx4a65c_grow_92f84_52 kl_J_7 hg rfl (by decide) (by decide) (by decide) ?_
  refine ax_dup_x1 dJx4a65c_grow_92f84_55 rfl rfl ?_
  refine ax_putR dJx4a65c_grow_92f84_56 fl_J_9 hf rfl rfl (Or.inl rfl) ?_
  exact ax_aret (r := some (nm g (sC S g))) dJx4a65c_grow_92f84_59 rfl (Or.inr ⟨_, rfl⟩) h
theorem shr1 {c : Nat} (h : c ≤ 100000) : nI c >>> ((1 : Int32) &&& 31) = nI (c / 2) := by
  have e : ((1 : Int32) &&& 31) = 1 := by decide
  rw [e]
  apply Int32.toInt_inj.mp
  rw [Int32.toInt_shiftRight, nI_toInt (by omega), nI_toInt (by omega)]
  show ((c : Int) >>> 1) = _
  rw [Int.shiftRight_eq_div_pow]
  omega
theorem l_growB {E : awE} {S : awS} {Q : Option Value → awS → Nat → Nat → Prop} {f g i c : Nat} (hf : fK f = 0) (hg : fK g = 25) (hfg : ¬ f = g) (hd : sR S f 0 1 = some (nm g i)) (hc : sN S g i = c) (hc2 : 10 ≤ c ∧ c ≤ 10000) (hl : i < sC S g) (hel : ∀ k r, sR S g i k = some r → fK (r % 256) < 14) (h : Q (some (.ref (nm g (sC S g)))) (wR (wRf (wNew S g (c + c / 2)) g (sC S g) (va_cpy (sR (wNew S g (c + c / 2)) g i) (sR (wNew S g (c + c / 2)) g (sC S g)) 0 0 c)) f 0 1 (some (nm g (sC S g)))) 1 (c + c / 2)) : awT false E m_Jx4a65c_grow_92f84 [.ref (nm f 0), .int (nI (c + 1))] S Q := by
  refine awT.of (by decide) (by decide) (Nat.le_of_ble_eq_true rfl) ?_
  refine ax_aload_n (i := 0) dJx4a65c_grow_92f84_0 rfl rfl rfl ?_
  refine ax_getR dJx4a65c_grow_92f84_1 fl_J_9 hf rfl rfl hd ?_
  refine ax_alen dJx4a65c_grow_92f84_4 (by rw [hg]; decide) rfl ?_
  rw [hc]
  refine ax_istore_n (i := 2) (lv' := [(2, _), (0, _), (1, _)]) dJx4a65c_grow_92f84_5 rfl (by decide) rfl ?_
  refine ax_iload_n (i := 2) dJx4a65c_grow_92f84_6 rfl rfl ?_
  refine ax_if_gt (tgt := 20) dJx4a65c_grow_92f84_7 (by decide) (fun _ => ?_) (fun z => absurd (nI_lt (a := 0) (b := c) (by omega) (by omega)) z)
  refine ax_iload_n (i := 2) dJx4a65c_grow_92f84_20 rfl rfl ?_
  refine ax_iload_n (i := 1) dJx4a65c_grow_92f84_21 rfl rfl ?_
  refine ax_iload_n (i := 2) dJx4a65c_grow_92f84_22 rfl rfl ?_
  refine ax_isubN dJx4a65c_grow_92f84_23 (by omega) ?_
  refine ax_iload_n (i := 2) dJx4a65c_grow_92f84_24 rfl rfl ?_
  refine ax_iconst (v := 1) dJx4a65c_grow_92f84_25 (by decide) ?_
  refine ax_ishr dJx4a65c_grow_92f84_26 ?_
  rw [shr1 (by omega), show nI (c + 1 - c) = 1 by rw [show c + 1 - c = 1 by omega]; rfl]
  refine ax_invS (n := 3) (As := [_, _, _]) dJx4a65c_grow_92f84_27 cb_J8_newLength_cabcc cs_J_73.1 cs_J_73.2 rfl ⟨Nat.le_of_ble_eq_true rfl, Nat.le_of_ble_eq_true rfl⟩ (Nat.le_of_ble_eq_true rfl) rfl (t_newLen (by omega) (by omega) ?_)
  refine ax_istore_n (i := 3) (lv' := [(3, _), (2, _), (0, _), (1, _)]) dJx4a65c_grow_92f84_30 rfl (by decide) rfl ?_
  refine ax_aload_n (i := 0) dJx4a65c_grow_92f84_31 rfl rfl rfl ?_
  refine ax_aload_n (i := 0) dJx4a65c_grow_92f84_32 rfl rfl rfl ?_
  refine ax_getR dJx4a65c_grow_92f84_33 fl_J_9 hf rfl rfl hd ?_
  refine ax_iload_n (i := 3) dJx4a65c_grow_92f84_36 rfl rfl ?_
  refine ax_invS (n := 2) (As := [_, _]) dJx4a65c_grow_92f84_37 cb_J7_copyOf_1904c cs_J_66.1 cs_J_66.2 rfl ⟨Nat.le_of_ble_eq_true rfl, Nat.le_of_ble_eq_true rfl⟩ (Nat.le_of_ble_eq_true rfl) rfl (l_copy2 hg hc hl (by omega) (by omega) hel ?_)
  refine ax_dup_x1 dJx4a65c_grow_92f84_40 rfl rfl ?_
  refine ax_putR dJx4a65c_grow_92f84_41 fl_J_9 hf rfl rfl (Or.inl rfl) ?_
  refine ax_aret (r := some (nm g (sC S g))) dJx4a65c_grow_92f84_44 rfl (Or.inr ⟨_, rfl⟩) ?_
  rw [Nat.zero_add, Nat.zero_add]
  exact h

