-- the law: its loop's invariant, the two calls of a case
def putX (S : awS) (M : aM) : awS := (fun f i j => if f = 13 ∨ 128 ≤ f then (if i = 0 then (if f = 13 then M.1 j else M.2.1 (f - 128) j) else S.1 f i j) else S.1 f i j, fun f i j => if 128 ≤ f then (if i = 0 then M.2.2 (f - 128) j else S.2.1 f i j) else S.2.1 f i j, S.2.2)
theorem putM_X (S : awS) (M : aM) : putM S M = putX S M := by
  unfold putM putX
  refine Prod.ext ?_ (Prod.ext ?_ rfl)
  · funext f i j
    dsimp only
    grind
  · funext f i j
    dsimp only
    grind
theorem cR.putX {τ : Nat → Nat → Nat} {S : awS} {M : aM} (h : cR τ S M) (M' : aM) : cR τ (putX S M') M := cR.mk' h.mI h.tow h.lst h.cx h.cnt.2.1 h.cnt.2.2 h.src h.rul h.ala h.ltr h.brd h.ix h.la h.sca h.val h.ref h.wat h.flg h.tru h.hld h.lea h.row h.bdr h.inv
theorem cRR.put {S : awS} {M : aM} (h : cRR S M) (M' : aM) : cRR (putM S M') M := by
  rw [putM_X]
  exact ⟨h.1.putX M', h.2⟩
theorem cRR.th {S : awS} {M : aM} (h : cRR S M) (v : Int32) : cRR S (pS M 0 v) := ⟨h.1.mc (h.1.mI.qSF (by decide)) (fun k h1 _ => if_neg h1) (fun _ _ _ _ _ => rfl) (fun _ _ _ => rfl), h.2⟩
theorem cFm.par {S S' : awS} (h : cFm S S') : parM S' = parM S := by
  refine Prod.ext ?_ (Prod.ext ?_ ?_)
  · funext k
    exact (h 13 (fun z => z.1 rfl)).1 0 k
  · funext k j
    exact (h (128 + k) (fun z => absurd z.2.2 (by omega))).1 0 j
  · funext k j
    exact (h (128 + k) (fun z => absurd z.2.2 (by omega))).2.1 0 j
theorem cFm.ok {S S' : awS} (h : cFm S S') (hm : mOk S) : mOk S' := fun k hk => ⟨((h 13 (fun z => z.1 rfl)).2.2.1 0 k).trans (hm k hk).1, ((h (128 + k) (fun z => absurd z.2.2 (by omega))).2.2.2.1 0).trans (hm k hk).2⟩
theorem cFm.o29 {S S' : awS} (h : cFm S S') : sN S' 29 0 = sN S 29 0 := (h 29 (fun z => z.2.1 rfl)).2.2.2.1 0
theorem awUp_c {S S' : awS} (h : awUp S S') {f : Nat} (hf : f < 256) : sC S f ≤ sC S' f := Nat.le_of_not_lt fun z => by
  have h1 := (lvN_nm hf).mp (h _ ((lvN_nm (i := sC S' f) hf).mpr z))
  omega
theorem cRR.zz {S : awS} {M : aM} (h : cRR S M) : zz M = sC S 1 + sC S 3 + sC S 4 := by
  have q := h.1.cnt.1
  have e1 := q (1, 1, 30) (by decide)
  have e2 := q (3, 1, 48) (by decide)
  have e3 := q (4, 1, 63) (by decide)
  simp only [Nat.one_mul] at e1 e2 e3
  rw [e1, e2, e3]
  rfl
theorem zz_up {S S' : awS} {M M' : aM} (h : cRR S M) (h' : cRR S' M') (hu : awUp S S') : zz M ≤ zz M' := by
  rw [h.zz, h'.zz]
  have a := awUp_c hu (f := 1) (by decide)
  have b := awUp_c hu (f := 3) (by decide)
  have c := awUp_c hu (f := 4) (by decide)
  omega
theorem zz_le {M : aM} (h : mI M) : zz M ≤ 800 := by
  have a : mN M 30 ≤ 300 := mS_b h (by decide)
  have b : mN M 48 ≤ 300 := mS_b h (by decide)
  have c : mN M 63 ≤ 200 := mS_b h (by decide)
  unfold zz
  omega
theorem awT.up {b : Bool} {E : awE} {M : awM} {As : List Value} {S : awS} {Q : Option Value → awS → Nat → Nat → Prop} (h : awT b E M As S Q) : awT b E M As S (fun r S' mc ms => awUp S S' ∧ Q r S' mc ms) := by
  obtain ⟨r, S', mc, ms, hQ, hu, hM⟩ := h
  exact ⟨r, S', mc, ms, ⟨hu, hQ⟩, hu, hM⟩
theorem awT.mono {b : Bool} {E : awE} {M : awM} {As : List Value} {S : awS} {Q Q' : Option Value → awS → Nat → Nat → Prop} (h : awT b E M As S Q) (k : ∀ r S' mc ms, Q r S' mc ms → Q' r S' mc ms) : awT b E M As S Q' := by
  obtain ⟨r, S', mc, ms, hQ, hu, hM⟩ := h
  exact ⟨r, S', mc, ms, k _ _ _ _ hQ, hu, hM⟩
theorem awTv.up {b : Bool} {E : awE} {M : awM} {w0 : Cond} {As : List Value} {S : awS} {Q : Option Value → awS → Nat → Nat → Prop} (h : awTv b E M w0 As S Q) : awTv b E M w0 As S (fun r S' mc ms => awUp S S' ∧ Q r S' mc ms) := by
  obtain ⟨r, S', mc, ms, hQ, hu, hM⟩ := h
  exact ⟨r, S', mc, ms, ⟨hu, hQ⟩, hu, hM⟩
theorem awTv.mono {b : Bool} {E : awE} {M : awM} {w0 : Cond} {As : List Value} {S : awS} {Q Q' : Option Value → awS → Nat → Nat → Prop} (h : awTv b E M w0 As S Q) (k : ∀ r S' mc ms, Q r S' mc ms → Q' r S' mc ms) : awTv b E M w0 As S Q' := by
  obtain ⟨r, S', mc, ms, hQ, hu, hM⟩ := h
  exact ⟨r, S', mc, ms, k _ _ _ _ hQ, hu, hM⟩
/-- where the loop stands: the class in S, the reference in S and as M -/
def lwS (S : awS) (M : aM) : Prop := parM S = M ∧ mOk S ∧ cRR S M ∧ sN S 29 0 = 1
theorem lwS.put {S : awS} {M : aM} (h2 : mOk S) (h3 : cRR S M) (h4 : sN S 29 0 = 1) : lwS (putM S M) M := ⟨parM_put S M, h2, h3.put M, h4⟩
theorem par_e {S : awS} {M : aM} (h : parM S = M) : S = putM S M := by rw [← h]; exact (putM_par S).symm
abbrev lwN (S S' : awS) (M M' : aM) : Prop := parM S' = M ∧ mOk S' ∧ cRR S' M' ∧ sN S' 29 0 = 1 ∧ zz M ≤ zz M'
abbrev lwP (S : awS) (M M' : aM) (v : Int32) (Q : Option Value → awS → Nat → Nat → Prop) : Prop := ∀ S' mc ms, lwN S S' M M' → mc + 4 * zz M ≤ 60 + 4 * zz M' → ms + 1300 * zz M ≤ 2000 + 1300 * zz M' → Q (some (.int v)) S' mc ms
theorem lwS.call {E : awE} {S : awS} {M : aM} (I : lwS S M) {Mc : awM} {As : List Value} {p : aM × Int32} {Q : Option Value → awS → Nat → Nat → Prop} (c : ∀ Q, cPost S p Q → awT true E Mc As S Q) (k : lwP S M p.1 p.2 Q) : awT true E Mc As S Q := by
  refine ((c (fun r S' mc ms => r = some (.int p.2) ∧ cRR S' p.1 ∧ cFm S S' ∧ mc ≤ 60 ∧ ms ≤ 2000) (fun S' mc ms h1 h2 h3 h4 => ⟨rfl, h1, h2, h3, h4⟩)).up).mono (fun r S' mc ms h => ?_)
  obtain ⟨hu, rfl, h1, h2, h3, h4⟩ := h
  have hz := zz_up I.2.2.1 h1 hu
  exact k S' mc ms ⟨h2.par.trans I.1, h2.ok I.2.1, h1, h2.o29.trans I.2.2.2, hz⟩ (by omega) (by omega)
theorem lwS.callV {E : awE} {S : awS} {M : aM} (I : lwS S M) {Mc : awM} {w0 : Cond} {As : List Value} {p : aM × Int32} {Q : Option Value → awS → Nat → Nat → Prop} (c : ∀ Q, cPost S p Q → awTv true E Mc w0 As S Q) (k : lwP S M p.1 p.2 Q) : awTv true E Mc w0 As S Q := by
  refine ((c (fun r S' mc ms => r = some (.int p.2) ∧ cRR S' p.1 ∧ cFm S S' ∧ mc ≤ 60 ∧ ms ≤ 2000) (fun S' mc ms h1 h2 h3 h4 => ⟨rfl, h1, h2, h3, h4⟩)).up).mono (fun r S' mc ms h => ?_)
  obtain ⟨hu, rfl, h1, h2, h3, h4⟩ := h
  have hz := zz_up I.2.2.1 h1 hu
  exact k S' mc ms ⟨h2.par.trans I.1, h2.ok I.2.1, h1, h2.o29.trans I.2.2.2, hz⟩ (by omega) (by omega)
theorem lwS.tick {E : awE} {S : awS} {M : aM} (I : lwS S M) {Q : Option Value → awS → Nat → Nat → Prop} (k : lwP S M (mTick M).1 (mTick M).2 Q) : awT true E m_X11_tick [.ref (nm 12 0)] S Q := by
  refine ((c_tick I.2.2.1 (Q := fun r S' mc ms => r = some (.int (mTick M).2) ∧ cRR S' (mTick M).1 ∧ cFm S S' ∧ mc + 4 * zz M ≤ 4 * zz (mTick M).1 ∧ ms + 1300 * zz M ≤ 1300 * zz (mTick M).1) (fun S' mc ms h1 h2 h3 h4 => ⟨rfl, h1, h2, h3, h4⟩)).up).mono (fun r S' mc ms h => ?_)
  obtain ⟨hu, rfl, h1, h2, h3, h4⟩ := h
  have hz := zz_up I.2.2.1 h1 hu
  exact k S' mc ms ⟨h2.par.trans I.1, h2.ok I.2.1, h1, h2.o29.trans I.2.2.2, hz⟩ (by omega) (by omega)
/-- a call that only reads -/
theorem rd_post {S : awS} {M : aM} {p : aM × Int32} {Q : Option Value → awS → Nat → Nat → Prop} (R : cRR S M) (e : p.1 = mT0 M) (h : cPost S p Q) : Q (some (.int p.2)) S 0 0 := h S 0 0 (by rw [e]; exact R.t0) cFm.rf (by decide) (by decide)

theorem rd_mTruth {M : aM} {r s : Int32} : (mTruth M r s).1 = mT0 M := by
  unfold mTruth
  try dsimp only
  (repeat' (first | rfl | split))

theorem rd_mCounts {M : aM} {r s w : Int32} : (mCounts M r s w).1 = mT0 M := by
  unfold mCounts
  try dsimp only
  (repeat' (first | rfl | split))

theorem rd_mAlarm {M : aM} {x w : Int32} : (mAlarm M x w).1 = mT0 M := by
  unfold mAlarm
  try dsimp only
  (repeat' (first | rfl | split))

theorem rd_mLetter {M : aM} {l w : Int32} : (mLetter M l w).1 = mT0 M := by
  unfold mLetter
  try dsimp only
  (repeat' (first | rfl | split))

theorem rd_mHolds {M : aM} {l i : Int32} : (mHolds M l i).1 = mT0 M := by
  unfold mHolds
  try dsimp only
  (repeat' (first | rfl | split))

theorem rd_mWhy {M : aM} {l : Int32} : (mWhy M l).1 = mT0 M := by
  unfold mWhy
  try dsimp only
  (repeat' (first | rfl | split))

theorem rd_mWhyNot {M : aM} {r s : Int32} : (mWhyNot M r s).1 = mT0 M := by
  unfold mWhyNot
  try dsimp only
  (repeat' (first | rfl | split))

theorem rd_mNoise {M : aM} {h : Int32} : (mNoise M h).1 = mT0 M := by
  unfold mNoise
  try dsimp only
  (repeat' (first | rfl | split))

theorem rd_mFlap {M : aM} {r n : Int32} : (mFlap M r n).1 = mT0 M := by
  unfold mFlap
  try dsimp only
  (repeat' (first | rfl | split))

theorem rd_mLeast {M : aM} {r p : Int32} : (mLeast M r p).1 = mT0 M := by
  unfold mLeast
  try dsimp only
  (repeat' (first | rfl | split))

theorem rd_mCount {M : aM} {w : Int32} : (mCount M w).1 = mT0 M := by
  unfold mCount
  try dsimp only
  (repeat' (first | rfl | split))

theorem rd_mWeight {M : aM} {d : Int32} : (mWeight M d).1 = mT0 M := by
  unfold mWeight
  try dsimp only
  (repeat' (first | rfl | split))

def m_law : awM := (⟨"AlarmTowerLaw", "law", "([I)Z"⟩, code, 8, (some .boolean), 14, 552, false)
theorem av_sldN {b : Bool} {E : awE} {M : awM} {pc : Nat} {lv : List (Nat × Value)} {st : List Value} {S : awS} {kc ks n : Nat} {Q : Option Value → awS → Nat → Nat → Prop} (hd : decode (awM_c M) pc = .ok (.iaload, 1)) (hn : n < awE_n E) (hb : awE_n E < 2 ^ 31) (k : awV b E M (pc + 1) lv (.int (awE_x E n) :: st) S kc ks Q) : awV b E M pc lv (.int (nI n) :: .ref nmS :: st) S kc ks Q := av_sld hd (vp_in_nI hn hb) (by rw [nI_clamp (by omega)]; exact k)
abbrev lwL (j : Nat) : List (Nat × Value) := [(4, .int (nI (7 * j))), (0, .ref nmS), (1, .ref (nm 12 0)), (2, .ref (nm 13 0)), (3, .ref (nm 29 0))]
/-- behind a case -/
def lwK (E : awE) (M : aM) (j kc ks : Nat) (Q : Option Value → awS → Nat → Nat → Prop) : Prop := ∀ S' M' mc ms, lwS S' M' → zz M ≤ zz M' → mc + 4 * zz M ≤ kc + 60 + 4 * zz M' → ms + 1300 * zz M ≤ ks + 2000 + 1300 * zz M' → awV true E m_law 1485 (lwL j) [] S' mc ms Q

