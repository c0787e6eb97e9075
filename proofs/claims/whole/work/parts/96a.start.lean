-- the law's start: what the tables and the given words say
theorem oIn (c : Nat) (hc : c < 14) : Cond.instantiable (oCl c).1 (oCl c).2.2 ∈ awBig := match c, hc with
  | 0, _ => nw_X11_7.2.2.1
  | 1, _ => nw_X11_240.2.2.1
  | 2, _ => nw_X11_31.2.2.1
  | 3, _ => nw_X11_264.2.2.1
  | 4, _ => nw_X11_313.2.2.1
  | 5, _ => nw_X11_37.2.2.1
  | 6, _ => nw_X11_96.2.2.1
  | 7, _ => nw_X11_136.2.2.1
  | 8, _ => nw_X11_128.2.2.1
  | 9, _ => nw_X11_79.2.2.1
  | 10, _ => nw_X11_143.2.2.1
  | 11, _ => nw_X5_9.2.2.1
  | 12, _ => nw_L_8.2.2.1
  | 13, _ => nw_L_18.2.2.1
  | n + 14, h => absurd h (by omega)
theorem st_cl {args : Array Value} {s : State} (hts : ∀ w ∈ awBig, w.before args s = true) : ∃ D : va_G, ∀ (c : Nat) (q : vw_C), vwCl[c]? = some q → u_Kn s q.1 q.2.1 q.2.2 (D.1 c) (D.2 c) := by
  have h : ∀ k : Nat, ∃ p : ClassId × (Nat → Nat), ∀ q : vw_C, vwCl[k]? = some q → u_Kn s q.1 q.2.1 q.2.2 p.1 p.2 := fun k => by
    by_cases hk : k < 14
    · obtain ⟨cC, iS, h⟩ := u_known (C := (oCl k).1) (T := (oCl k).2.1) (N := (oCl k).2.2) hts (oWs k hk) (hts _ (oIn k hk))
      exact ⟨(cC, iS), fun q hq => by rw [oCl_at k hk] at hq; cases hq; exact h⟩
    · refine ⟨((0 : Nat), fun _ => 0), fun q hq => ?_⟩
      have hl : vwCl.length = 14 := rfl
      rw [List.getElem?_eq_none (by omega)] at hq
      cases hq
  refine ⟨(fun k => (Classical.choose (h k)).1, fun k => (Classical.choose (h k)).2), fun c q hq => Classical.choose_spec (h c) q hq⟩
theorem st_ar {args : Array Value} {s : State} (hts : ∀ w ∈ lw_tbl, w.before args s = true) : ∃ A : Nat → ClassId, ∀ (k : Nat) (q : ClassId × FieldType), (awTys A)[k]? = some q → ArrOfT s q.1 q.2 ∧ va_RA s q.1 q.2 := by
  obtain ⟨c0, k0, m0, a0, b0, d0⟩ := Cond.arrayClass_spec (hts (.arrayClass .int) (by decide +kernel))
  obtain ⟨c1, k1, m1, a1, b1, d1⟩ := Cond.arrayClass_spec (hts (.arrayClass .long) (by decide +kernel))
  obtain ⟨c2, k2, m2, a2, b2, d2⟩ := Cond.arrayClass_spec (hts (.arrayClass .boolean) (by decide +kernel))
  obtain ⟨c3, k3, m3, a3, b3, d3⟩ := Cond.arrayClass_spec (hts (.arrayClass .byte) (by decide +kernel))
  obtain ⟨m4, c4, k4, f4, -, b4, d4, a4⟩ := Cond.arrayOver_spec (hts (.arrayOver (.object "AlarmTower$Watch")) (by decide +kernel))
  obtain ⟨m5, c5, k5, f5, -, b5, d5, a5⟩ := Cond.arrayOver_spec (hts (.arrayOver (.object "java/lang/Object")) (by decide +kernel))
  obtain ⟨m6, c6, k6, f6, -, b6, d6, a6⟩ := Cond.arrayOver_spec (hts (.arrayOver (.object "AlarmTower$Board")) (by decide +kernel))
  refine ⟨fun k => if k = 0 then c0 else if k = 1 then c1 else if k = 2 then c2 else if k = 3 then c3 else if k = 4 then c4 else if k = 5 then c5 else c6, fun k q hq => ?_⟩
  match k, hq with
  | 0, hq => cases hq; exact ⟨fun n z => ⟨(fun k h => by cases h), k0, b0, m0, d0⟩, a0⟩
  | 1, hq => cases hq; exact ⟨fun n z => ⟨(fun k h => by cases h), k1, b1, m1, d1⟩, a1⟩
  | 2, hq => cases hq; exact ⟨fun n z => ⟨(fun k h => by cases h), k2, b2, m2, d2⟩, a2⟩
  | 3, hq => cases hq; exact ⟨fun n z => ⟨(fun k h => by cases h), k3, b3, m3, d3⟩, a3⟩
  | 4, hq => cases hq; exact ⟨fun n z => ⟨(fun k h => by cases h), k4, b4, m4, d4⟩, ⟨k4, m4, b4, d4, f4, a4⟩⟩
  | 5, hq => cases hq; exact ⟨fun n z => ⟨(fun k h => by cases h), k5, b5, m5, d5⟩, ⟨k5, m5, b5, d5, f5, a5⟩⟩
  | 6, hq => cases hq; exact ⟨fun n z => ⟨(fun k h => by cases h), k6, b6, m6, d6⟩, ⟨k6, m6, b6, d6, f6, a6⟩⟩
  | n + 7, hq => simp [awTys] at hq
theorem aS00_R {E : awE} {ad : Nat → Nat} (h1 : ad nmE = awE_e E) (h2 : awE_e E < awE_lo E) (h3 : ad nmS = awE_b E) (h4 : awE_b E < awE_lo E) (h5 : ad nmC = awE_c E) (h6 : awE_lo E = (awE_H E).size) : awR true E aS00 ad (awE_H E) := by
  have z : ∀ f, ¬ f = 125 → ¬ f = 126 → ¬ f = 127 → sC aS00 f = 0 := fun f a b c => by
    show (if f = 125 ∨ f = 126 ∨ f = 127 then 1 else 0) = 0
    rw [if_neg (by omega)]
  have zl : ∀ n, lvN aS00 n → (n % 256 < 125 ∨ 127 < n % 256) → False := fun n hn h => by
    have q : n / 256 < sC aS00 (n % 256) := hn
    rw [z _ (by omega) (by omega) (by omega)] at q
    exact absurd q (Nat.not_lt_zero _)
  refine ⟨aS00, ⟨fun f _ => ⟨fun _ _ => rfl, fun _ _ => rfl, fun _ _ => rfl, fun _ => rfl⟩, fun f _ => rfl, fun f a b => z f (by omega) (by omega) (by omega), fun q hq hc => ?_, fun f i k r _ _ hr => by cases hr⟩, fun q _ => rfl, by omega, fun n hn h => absurd (zl n hn h) id, fun n n' hn _ h _ _ => absurd (zl n hn h) id, fun f i k r _ hr => (by cases hr), ⟨h1, h2, rfl⟩, ⟨h3, h4, rfl⟩, ⟨h5, rfl⟩⟩
  rw [z _ (by omega) (by omega) (by omega)] at hc
  cases hc
theorem st_cst : ∀ q ∈ awCst, Cond.castable q.1 q.2 ∈ lw_tbl := by decide +kernel
theorem st_nst : ∀ q ∈ awNst, Cond.methodLinkNest q.1 q.2.1 q.2.2.1 q.2.2.2 ∈ lw_tbl := by decide +kernel
theorem st_dcl : ∀ q ∈ awDcl, Cond.declares q ∈ lw_tbl := by decide +kernel
theorem st_str : ∀ q ∈ awStr, Cond.stringRef "AlarmTower" q.1 q.2 ∈ lw_tbl := by decide +kernel
