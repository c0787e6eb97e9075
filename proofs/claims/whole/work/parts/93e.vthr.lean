-- ends, the throw
section VENDS
variable {b : Bool} {E : awE} {M : awM} {pc : Nat} {lv lv' : List (Nat × Value)} {st : List Value} {S S' : awS} {kc ks kc' ks' : Nat} {Q : Option Value → awS → Nat → Nat → Prop}
theorem av_iret {x : Int32} {ty : FieldType} (hd : decode (awM_c M) pc = .ok (.ireturn, 1)) (hr : awM_r M = some ty) (hn : narrow ty (.int x) = .int x) (h : Q (some (.int x)) S kc ks) : awV b E M pc lv [.int x] S kc ks Q := (ax_iret hd hr hn ⟨rfl, h⟩).v
theorem av_lret {x : Int64} (hd : decode (awM_c M) pc = .ok (.lreturn, 1)) (hr : awM_r M = some .long) (h : Q (some (.long x)) S kc ks) : awV b E M pc lv [.long x] S kc ks Q := (ax_lret hd hr ⟨rfl, h⟩).v
theorem av_vret (hd : decode (awM_c M) pc = .ok (.return_, 1)) (hr : awM_r M = none) (h : Q none S kc ks) : awV b E M pc lv [] S kc ks Q := (ax_vret hd hr ⟨rfl, h⟩).v
theorem av_sE (e : S = S') (k : awV b E M pc lv st S' kc ks Q) : awV b E M pc lv st S kc ks Q := e ▸ k
theorem av_kE (e1 : kc = kc') (e2 : ks = ks') (k : awV b E M pc lv st S kc' ks' Q) : awV b E M pc lv st S kc ks Q := by
  subst e1; subst e2; exact k
end VENDS
section CNULL
variable {b : Bool} {E : awE} {M : awM} {pc : Nat} {lv lv' : List (Nat × Value)} {st : List Value} {S : awS} {kc ks : Nat} {Q : Option Value → awS → Nat → Nat → Prop}
theorem av_ifnull_t {off : Int} {tgt : Nat} (hd : decode (awM_c M) pc = .ok (.ifnull off, 3)) (ht : (pc : Int) + off = (tgt : Int)) (k : awV b E M tgt lv st S kc ks Q) : awV b E M pc lv (.null :: st) S kc ks Q := av_ifnull (r := none) hd ht (fun _ => k) (fun n h => by cases h)
theorem av_ifnull_f {off : Int} {n : Nat} (hd : decode (awM_c M) pc = .ok (.ifnull off, 3)) {k0 : Nat} (hk : (pc : Int) + off = (k0 : Int)) (k : awV b E M (pc + 3) lv st S kc ks Q) : awV b E M pc lv (.ref n :: st) S kc ks Q := av_ifnull (r := some n) hd hk (fun h => by cases h) (fun _ _ => k)
theorem av_ifnonnull_t {off : Int} {tgt n : Nat} (hd : decode (awM_c M) pc = .ok (.ifnonnull off, 3)) (ht : (pc : Int) + off = (tgt : Int)) (k : awV b E M tgt lv st S kc ks Q) : awV b E M pc lv (.ref n :: st) S kc ks Q := av_ifnonnull (r := some n) hd ht (fun _ _ => k) (fun h => by cases h)
theorem av_ifnonnull_f {off : Int} (hd : decode (awM_c M) pc = .ok (.ifnonnull off, 3)) {k0 : Nat} (hk : (pc : Int) + off = (k0 : Int)) (k : awV b E M (pc + 3) lv st S kc ks Q) : awV b E M pc lv (.null :: st) S kc ks Q := av_ifnonnull (r := none) hd hk (fun n h => by cases h) (fun _ => k)
theorem av_alenN {f i n : Nat} (hd : decode (awM_c M) pc = .ok (.arraylength, 1)) (hf : 20 ≤ fK f ∧ fK f < 27) (hb : nb b f = true) (hN : sN S f i = n) (kk : awV b E M (pc + 1) lv (.int (nI n) :: st) S kc ks Q) : awV b E M pc lv (.ref (nm f i) :: st) S kc ks Q := av_alen hd hf hb (by rw [hN]; exact kk)
theorem av_ialdN {f i n N : Nat} (hd : decode (awM_c M) pc = .ok (.iaload, 1)) (hf : fK f = 20) (hb : nb b f = true) (hN : sN S f i = N) (hNb : N < 2 ^ 31) (hn : n < N) (kk : awV b E M (pc + 1) lv (.int (sI S f i n) :: st) S kc ks Q) : awV b E M pc lv (.int (nI n) :: .ref (nm f i) :: st) S kc ks Q := av_iald hd hf hb (by rw [hN]; exact vp_in_nI hn hNb) (by rw [nI_clamp (by omega)]; exact kk)
theorem av_zaldN {f i n N : Nat} (hd : decode (awM_c M) pc = .ok (.baload, 1)) (hf : fK f = 22) (hb : nb b f = true) (hN : sN S f i = N) (hNb : N < 2 ^ 31) (hn : n < N) (kk : awV b E M (pc + 1) lv (.int (sI S f i n) :: st) S kc ks Q) : awV b E M pc lv (.int (nI n) :: .ref (nm f i) :: st) S kc ks Q := av_zald hd hf hb (by rw [hN]; exact vp_in_nI hn hNb) (by rw [nI_clamp (by omega)]; exact kk)
theorem av_laldN {f i n N : Nat} (hd : decode (awM_c M) pc = .ok (.laload, 1)) (hf : fK f = 21) (hb : nb b f = true) (hN : sN S f i = N) (hNb : N < 2 ^ 31) (hn : n < N) (kk : awV b E M (pc + 1) lv (.long (sL S f i n) :: st) S kc ks Q) : awV b E M pc lv (.int (nI n) :: .ref (nm f i) :: st) S kc ks Q := av_lald hd hf hb (by rw [hN]; exact vp_in_nI hn hNb) (by rw [nI_clamp (by omega)]; exact kk)
theorem av_aaldN {f i n N : Nat} {r : Option Nat} (hd : decode (awM_c M) pc = .ok (.aaload, 1)) (hf : fK f = 24) (hb : nb b f = true) (hN : sN S f i = N) (hNb : N < 2 ^ 31) (hn : n < N) (hr : sR S f i n = r) (kk : awV b E M (pc + 1) lv (va_rf r :: st) S kc ks Q) : awV b E M pc lv (.int (nI n) :: .ref (nm f i) :: st) S kc ks Q := av_aald hd hf hb (by rw [hN]; exact vp_in_nI hn hNb) (by rw [nI_clamp (by omega)]; exact hr) kk
theorem av_daldN {f i n N : Nat} {r : Option Nat} (hd : decode (awM_c M) pc = .ok (.aaload, 1)) (hf : fK f = 26) (hb : nb b f = true) (hN : sN S f i = N) (hNb : N < 2 ^ 31) (hn : n < N) (hr : sR S f i n = r) (kk : awV b E M (pc + 1) lv (va_rf r :: st) S kc ks Q) : awV b E M pc lv (.int (nI n) :: .ref (nm f i) :: st) S kc ks Q := av_dald hd hf hb (by rw [hN]; exact vp_in_nI hn hNb) (by rw [nI_clamp (by omega)]; exact hr) kk
theorem av_iastN {f i n N : Nat} {y : Int32} (hd : decode (awM_c M) pc = .ok (.iastore, 1)) (hf : fK f = 20) (hb : nb b f = true) (hN : sN S f i = N) (hNb : N < 2 ^ 31) (hn : n < N) (kk : awV b E M (pc + 1) lv st (wI S f i n y) kc ks Q) : awV b E M pc lv (.int y :: .int (nI n) :: .ref (nm f i) :: st) S kc ks Q := av_iast hd hf hb (by rw [hN]; exact vp_in_nI hn hNb) (by rw [nI_clamp (by omega)]; exact kk)
theorem av_zastN {f i n N : Nat} {y : Int32} (hd : decode (awM_c M) pc = .ok (.bastore, 1)) (hf : fK f = 22) (hb : nb b f = true) (hN : sN S f i = N) (hNb : N < 2 ^ 31) (hn : n < N) (hy : y &&& 1 = y) (kk : awV b E M (pc + 1) lv st (wI S f i n y) kc ks Q) : awV b E M pc lv (.int y :: .int (nI n) :: .ref (nm f i) :: st) S kc ks Q := av_zast hd hf hb (by rw [hN]; exact vp_in_nI hn hNb) hy (by rw [nI_clamp (by omega)]; exact kk)
theorem av_lastN {f i n N : Nat} {y : Int64} (hd : decode (awM_c M) pc = .ok (.lastore, 1)) (hf : fK f = 21) (hb : nb b f = true) (hN : sN S f i = N) (hNb : N < 2 ^ 31) (hn : n < N) (kk : awV b E M (pc + 1) lv st (wL S f i n y) kc ks Q) : awV b E M pc lv (.long y :: .int (nI n) :: .ref (nm f i) :: st) S kc ks Q := av_last hd hf hb (by rw [hN]; exact vp_in_nI hn hNb) (by rw [nI_clamp (by omega)]; exact kk)
end CNULL
section CPROJ
variable {τ : Nat → Nat → Nat} {S : awS} {M : aM}
end CPROJ

theorem awR_grow {b : Bool} {E : awE} {S : awS} {ad : Nat → Nat} {H H1 : Heap} (h : awR b E S ad H) (hz : H.size ≤ H1.size) (ho : ∀ q : Nat, q < H.size → H1[q]? = H[q]?) : awR b E S ad H1 := by
  have key : ∀ S0, awR0 E S0 ad H → awR0 E S0 ad H1 := fun S0 h0 => by
    obtain ⟨h1, h2, h3, h4, h5, h6, h7, h8⟩ := h0
    refine ⟨fun q hq => (ho q (by omega)).trans (h1 q hq), by omega, fun n hn n1 => ?_, h4, h5, h6, h7, h8⟩
    obtain ⟨g1, g2⟩ := h3 n hn n1
    exact ⟨g1, g2.kept (ho _ g2.lt)⟩
  cases b with
  | false => exact key S h
  | true =>
    obtain ⟨S0, hh, h0⟩ := h
    exact ⟨S0, hh, key S0 h0⟩
theorem awR_lo {b : Bool} {E : awE} {S : awS} {ad : Nat → Nat} {H : Heap} (h : awR b E S ad H) : (∀ q, q < awE_lo E → H[q]? = (awE_H E)[q]?) ∧ awE_lo E ≤ H.size := by
  cases b with
  | false => exact ⟨h.1, h.2.1⟩
  | true => obtain ⟨S0, -, h0⟩ := h; exact ⟨h0.1, h0.2.1⟩
theorem W_sz {p : Program} {l : Launch} {e : Env} {R : Room} {s : State} {m : MethodId} {args : Array Value} {below : List Frame} {meth : Method} {c : Code} {H : Heap} {locs : List Loc} {cells slots : Nat} {Q : State → Prop} {g : JFrame} (k : s.heap.size ≤ H.size → W p l e R s m args below meth c H locs cells slots Q g) : W p l e R s m args below meth c H locs cells slots Q g := fun T hT X => k (by
  have h := X.same.2.1
  rw [← hT]
  exact h) T hT X
theorem twIA_k : Cond.classLink "AlarmTower" 491 "java/lang/IllegalArgumentException" ∈ awBig := awBig_tab (n := 1144) (by decide +kernel) (by decide +kernel)
theorem twIA_i : Cond.initialized "java/lang/IllegalArgumentException" ∈ awBig := awBig_tab (n := 26) (by decide +kernel) (by decide +kernel)
theorem twIA_w : ∀ w ∈ (vx_atS "AlarmTower" 495 "java/lang/IllegalArgumentException" ["java/lang/RuntimeException", "java/lang/Exception"]).filter goodWord, w ∈ lw_tbl := by decide +kernel
theorem twIA_r : ∀ w ∈ (vx_atS "AlarmTower" 495 "java/lang/IllegalArgumentException" ["java/lang/RuntimeException", "java/lang/Exception"]).filter (fun w => !goodWord w), w ∈ Cond.castable "java/lang/IllegalArgumentException" "java/lang/IllegalArgumentException" :: awDcl.map Cond.declares := by decide +kernel
theorem twIA_g : ∀ w ∈ Cond.classLink "AlarmTower" 491 "java/lang/IllegalArgumentException" :: Cond.initialized "java/lang/IllegalArgumentException" :: vx_atS "AlarmTower" 495 "java/lang/IllegalArgumentException" ["java/lang/RuntimeException", "java/lang/Exception"], vx_ot w = true := by decide +kernel
theorem twIA_c : ("java/lang/IllegalArgumentException", "java/lang/IllegalArgumentException") ∈ awCst := by decide
theorem twIS_k : Cond.classLink "AlarmTower" 502 "java/lang/IllegalStateException" ∈ awBig := awBig_tab (n := 1065) (by decide +kernel) (by decide +kernel)
theorem twIS_i : Cond.initialized "java/lang/IllegalStateException" ∈ awBig := awBig_tab (n := 27) (by decide +kernel) (by decide +kernel)
theorem twIS_w : ∀ w ∈ (vx_atS "AlarmTower" 506 "java/lang/IllegalStateException" ["java/lang/RuntimeException", "java/lang/Exception"]).filter goodWord, w ∈ lw_tbl := by decide +kernel
theorem twIS_r : ∀ w ∈ (vx_atS "AlarmTower" 506 "java/lang/IllegalStateException" ["java/lang/RuntimeException", "java/lang/Exception"]).filter (fun w => !goodWord w), w ∈ Cond.castable "java/lang/IllegalStateException" "java/lang/IllegalStateException" :: awDcl.map Cond.declares := by decide +kernel
theorem twIS_g : ∀ w ∈ Cond.classLink "AlarmTower" 502 "java/lang/IllegalStateException" :: Cond.initialized "java/lang/IllegalStateException" :: vx_atS "AlarmTower" 506 "java/lang/IllegalStateException" ["java/lang/RuntimeException", "java/lang/Exception"], vx_ot w = true := by decide +kernel
theorem twIS_c : ("java/lang/IllegalStateException", "java/lang/IllegalStateException") ∈ awCst := by decide
theorem av_throw {b : Bool} {E : awE} {M : awM} {pc ik is ic : Nat} {lv : List (Nat × Value)} {S : awS} {kc ks : Nat} {Q : Option Value → awS → Nat → Nat → Prop} {X text : String} {k : UInt64} (hcl : (awM_y M).cls = "AlarmTower") (hX : xK (some (.double k)) = some X) (hfit : Bundle.fit X = true)
    (hk : Cond.classLink "AlarmTower" ik X ∈ awBig) (hini : Cond.initialized X ∈ awBig) (hw : ∀ w ∈ (vx_atS "AlarmTower" ic X ["java/lang/RuntimeException", "java/lang/Exception"]).filter goodWord, w ∈ lw_tbl) (hr : ∀ w ∈ (vx_atS "AlarmTower" ic X ["java/lang/RuntimeException", "java/lang/Exception"]).filter (fun w => !goodWord w), w ∈ Cond.castable X X :: awDcl.map Cond.declares)
    (hg : ∀ w ∈ Cond.classLink "AlarmTower" ik X :: Cond.initialized X :: vx_atS "AlarmTower" ic X ["java/lang/RuntimeException", "java/lang/Exception"], vx_ot w = true) (hc : (X, X) ∈ awCst) (hs : (is, text) ∈ awStr) (hh : awHh M = []) (hf : 6 ≤ awM_f M) (hl : 90 ≤ awM_l M)
    (d0 : decode (awM_c M) pc = .ok (.new ik, 3)) (d3 : decode (awM_c M) (pc + 3) = .ok (.dup, 1)) (d4 : decode (awM_c M) (pc + 4) = .ok (.ldc_w is, 3)) (d7 : decode (awM_c M) (pc + 7) = .ok (.invokespecial ic, 3)) (d10 : decode (awM_c M) (pc + 10) = .ok (.athrow, 1))
    (h : Q (some (.double k)) S (kc + 1) (ks + 6)) : awV b E M pc lv [] S kc ks Q := by
  refine ⟨some (.double k), S, kc + 1, ks + 6, h, Nat.le_add_right _ _, Nat.le_add_right _ _, awUp_rf, fun p e R s m args below meth c hC hfr hlc hcc hss Qc XC H locs ad ls wf hR hlo hls hq hx => W_sz (fun hsz => ?_)⟩
  obtain ⟨hA, hKx, htb⟩ := hC
  obtain ⟨x1, x2, x3, x4, x5, -⟩ := hKx
  obtain ⟨sa, hsa⟩ := x5 _ hs
  have hts := hA.2.2.2.2.2.2.1
  have hKs := hA.2.2.2.2.2.2.2.1
  have hown : s.vm.findClass "AlarmTower" = some m.cls := by rw [← hcl]; exact hA.2.2.2.2.2.1
  have hlow := hA.2.2.2.2.2.2.2.2.2
  obtain ⟨l1, l2⟩ := awR_lo hR
  have hat : ∀ w ∈ vx_atS "AlarmTower" ic X ["java/lang/RuntimeException", "java/lang/Exception"], w.before args s = true := vx_hat (fun w hq => hts w (awBig_in (hw w hq) (List.mem_filter.mp hq).2)) hr (fun w hq => by
    rcases List.mem_cons.mp hq with e | e
    · rw [e]; exact (hKs.2.2.2.2.1 _ hc).use rfl
    · obtain ⟨y, hy, rfl⟩ := List.mem_map.mp e
      exact (x4 y hy).use rfl)
  have lift : ∀ {C n d : String}, vx_Zq C n d (awLo E) s (awE_H E) → vx_Zq C n d (awLo E) s s.heap := fun z => z.kept (fun a ha hn => hlow.1 a (Nat.lt_of_not_le hn))
  refine vx_throwSW (rest := []) (A := awLo E) (sa := sa) hA.1 hA.2.1 x1 hown hfit (by decide) (hts _ hk) (hts _ hini) hsa hat hg (lift x2) (lift x3) ⟨hsz, fun q h1 h2 => ?_, hlo⟩ (hls.1.trans hA.2.2.2.2.1.symm) d0 d3 d4 d7 d10 ?_ ?_ ?_ hcc hss hA.2.2.2.1 (fun t h1 h2 h3 => hx X ad t hX awAg_rf (awR_grow hR h2 h3)) hlo (Nat.le_refl _) (Nat.le_refl _)
  · have q2 : q < awE_lo E := Nat.lt_of_not_le h2
    rw [l1 q q2, hlow.1 q q2]
  · intro x hx2
    rw [htb (fun z => by rw [z] at hcl; exact absurd hcl (by decide)), hh] at hx2
    cases hx2
  · show 2 + 3 < R.frames
    omega
  · show 0 + (13 * (2 + 1) + 43) ≤ R.locals
    omega
