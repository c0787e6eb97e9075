set_option maxHeartbeats 2000000 in
set_option maxRecDepth 100000 in
theorem whole_start {p : Program} {e : Env} {s : State} {m : MethodId} {below : List Frame} {meth : Method} {c : Code} (l : Launch) (hflags : l.flags = flags0) {b L : Nat} {xs : Nat → Int32} (hL : L ≤ 3584) (C0 : lw_At p s m meth c b L xs) : W p l e room_1 s m #[Value.ref b] below meth c s.heap [] 0 0 (lw_Z below #[Value.ref b] s) (entryFrame m ([Value.ref b] : List Value).toArray 8) := by
  obtain ⟨hx, hb, hr, hml, hown, hts, hX, hbl, hlocks, hgv⟩ := C0
  have hbig : ∀ w ∈ awBig, w.before #[Value.ref b] s = true := fun w hw => hts w (List.mem_filter.mp hw).1
  obtain ⟨D, hD⟩ := st_cl hbig
  obtain ⟨A, hA⟩ := st_ar hts
  have hn : ∀ a : Nat, a < s.heap.size → ¬ s.heap.size ≤ a := fun a ha h => absurd ha (Nat.not_lt.mpr h)
  have hs := flat_of_before _ hgv
  have g1 : (Cond.arrayOf (.static "java/util/ArrayList" "DEFAULTCAPACITY_EMPTY_ELEMENTDATA" "[Ljava/lang/Object;") (.object "java/lang/Object")).before #[Value.ref b] s = true := hs _ (by decide +kernel)
  have g2 : (Cond.eq (.length (.static "java/util/ArrayList" "DEFAULTCAPACITY_EMPTY_ELEMENTDATA" "[Ljava/lang/Object;")) (.int 0)).before #[Value.ref b] s = true := hs _ (by decide +kernel)
  have g3 : (Cond.isRef (.mirror "[Ljava/lang/Object;")).before #[Value.ref b] s = true := hs _ (by decide +kernel)
  obtain ⟨w, w1, w2⟩ := Cond.eq_one g2
  cases w2
  obtain ⟨t, ht, hT⟩ := va_Tof (N := 0) (f := fun _ => .null) (A := fun q => s.heap.size ≤ q) (by decide) g1 w1 (fun j hj => absurd hj (Nat.not_lt_zero j)) hn
  have hZ := va_Zref (A := fun q => s.heap.size ≤ q) (hts (.laysStatic "java/util/ArrayList" "DEFAULTCAPACITY_EMPTY_ELEMENTDATA" "[Ljava/lang/Object;") (by decide +kernel)) (hts (.initialized "java/util/ArrayList") (by decide +kernel)) ht hn
  obtain ⟨mi, hM⟩ := va_Mi.of g3
  have hKs : awKs (l, s.heap.size, s.heap, D, A, t, b, L, xs, mi) s := ⟨⟨hD, hA⟩, hZ, hT, hX, fun q hq => va_Nw.of rfl (hts _ (st_cst q hq)), fun q hq => va_Nw.of rfl (hts _ (st_nst q hq)), va_AO.of (hts (.arrayOver (.object "java/lang/Object")) (by decide +kernel)), ⟨va_AO.of (hts (.arrayOver (.object "AlarmTower$Watch")) (by decide +kernel)), va_AO.of (hts (.arrayOver (.object "AlarmTower$Board")) (by decide +kernel))⟩, hM, va_Dc.of (hts (.declares ⟨"java/lang/Object", "getClass", "()Ljava/lang/Class;"⟩) (by decide +kernel))⟩
  have hstr : ∀ q ∈ awStr, ∃ a, vk_R "AlarmTower" q.1 q.2 a s := fun q hq => by
    have h0 := hts _ (st_str q hq)
    have hx : (Cond.exactly (.string "AlarmTower" q.1) "java/lang/String").before #[Value.ref b] s = true := by
      rcases List.mem_cons.mp hq with rfl | hq
      · exact hs (.exactly (.string "AlarmTower" 493) "java/lang/String") (by decide +kernel)
      rcases List.mem_cons.mp hq with rfl | hq
      · exact hs (.exactly (.string "AlarmTower" 504) "java/lang/String") (by decide +kernel)
      rcases List.mem_cons.mp hq with rfl | hq
      · exact hs (.exactly (.string "AlarmTower" 531) "java/lang/String") (by decide +kernel)
      · cases hq
    obtain ⟨a, c9, cell, k9, h1, -⟩ := Cond.exactly_spec hx
    exact ⟨a, vk_R.of h0 h1⟩
  have htr : l.stackTraces = false := by
    unfold Launch.stackTraces
    rw [hflags]
    decide
  have hKx : awKx (l, s.heap.size, s.heap, D, A, t, b, L, xs, mi) s := ⟨htr, vx_Zqof (hts (.laysStatic Bundle.tN "UNASSIGNED_STACK" Bundle.steD) (by decide +kernel)) (hts (.initialized Bundle.tN) (by decide +kernel)) (hs (.isRef (.static Bundle.tN "UNASSIGNED_STACK" Bundle.steD)) (by decide +kernel)) hn, vx_Zqof (hts (.laysStatic Bundle.tN "SUPPRESSED_SENTINEL" Bundle.listD) (by decide +kernel)) (hts (.initialized Bundle.tN) (by decide +kernel)) (hs (.isRef (.static Bundle.tN "SUPPRESSED_SENTINEL" Bundle.listD)) (by decide +kernel)) hn, fun q hq => va_Nw.of rfl (hts _ (st_dcl q hq)), hstr, va_Nc.of (hs (.not (.castable "java/lang/IllegalStateException" "java/lang/IllegalArgumentException")) (by decide +kernel))⟩
  have hte : t < s.heap.size := Nat.lt_of_not_le (va_T.out hT)
  obtain ⟨r, S', mc, ms, ⟨hr1, hc1, hs1⟩, -, -, -, hk⟩ := lw_all (E := (l, s.heap.size, s.heap, D, A, t, b, L, xs, mi)) hL
  have hC : awCx (l, s.heap.size, s.heap, D, A, t, b, L, xs, mi) m_law p s m #[Value.ref b] meth c := ⟨⟨hx, hb, hr, hlocks, hml, hown, hbig, hKs, (fun h => by cases h), fun q _ => rfl, Nat.le_refl _⟩, hKx, fun z => absurd rfl z⟩
  have hl := lv_entry ([.ref b]) (n := 8) (Nat.le_of_ble_eq_true rfl)
  rw [lg_entry_eq]
  generalize (lg_sl ([.ref b]) ++ List.replicate (8 - (lg_sl ([.ref b])).length) Slot.unset).toArray = ls at hl ⊢
  have hl : lv_has ls 8 [(0, .ref b)] := hl
  have k := hk p e room_1 s m #[Value.ref b] below meth c hC (Nat.le_refl _) (Nat.le_refl _) hc1 hs1 (fun _ _ o _ => o = .returned (some (.int 1))) (fun _ _ _ => False) s.heap [] (fun n => if n = 127 then t else if n = 126 then b else mi) ls ⟨fun q hq => by
      rw [List.mem_singleton.mp hq]
      show 126 / 256 < sC aS00 (126 % 256)
      decide, fun v hv => by cases hv⟩ (aS00_R rfl hte rfl hbl rfl rfl) (fun q hq => by cases hq) hl (fun ad' t' _ _ _ _ => by rw [hr1]; rfl) (fun X ad' t' hx _ _ => by rw [hr1] at hx; cases hx)
  intro T hT X
  obtain ⟨t', a1, o, b1, b2, b3⟩ := k T hT X
  rcases b3 with ⟨q1, L', ⟨f1, f2, f3⟩, f4⟩ | ⟨q, -, E', ce, L', hf, -⟩
  · exact ⟨t', a1, o, b1, b2, q1, f1, f2, f3.weaken (fun y hy hlt => absurd hlt (Nat.not_lt.mpr (f4 y hy))) hc1 hs1⟩
  · exact absurd hf id
