theorem mIx.weak {M : aM} (h : mI M) : mIx 1 M := ⟨h.1, h.2.1, Nat.le_succ_of_le h.2.2.1, h.2.2.2⟩
theorem mIx.pG {M : aM} (h : mI M) (hg : mN M 48 < 300) : mIx 1 (pS M 48 (mS M 48 + 1)) := by
  have e1 : mS M 48 + 1 = nI (mN M 48 + 1) := by rw [mS_nI h (k := 48) (b := 300) (by decide)]; exact nI_1 _
  have e2 : nN (mS M 48 + 1) = mN M 48 + 1 := by rw [e1]; exact nI_clamp (by omega)
  have e3 : ∀ q ∈ mIs, q.1 = 48 → q.2 = 300 := by decide
  refine ⟨fun q hq => rgS_pS (h.1 q hq) (fun e => by rw [e3 q hq e, e2]; exact ⟨e1, by omega⟩), h.2.1, ?_, h.2.2.2⟩
  show nN (mS M 48 + 1) ≤ mN M 30 + 1
  rw [e2]
  have := h.ga
  omega
theorem mIx.pAl {M : aM} {i : Nat} (h : mIx 1 M) (e : mN M 30 = i) (hi : i < 300) : mI (pS M 30 (nI (i + 1))) := by
  have e2 : nN (nI (i + 1)) = i + 1 := nI_clamp (by omega)
  have e3 : ∀ q ∈ mIs, q.1 = 30 → q.2 = 300 := by decide
  refine ⟨fun q hq => rgS_pS (h.1 q hq) (fun z => by rw [e3 q hq z, e2]; exact ⟨rfl, by omega⟩), h.2.1, ?_, h.2.2.2⟩
  show mN M 48 ≤ nN (nI (i + 1)) + 0
  rw [e2]
  have := h.ga
  omega
theorem mFst_le {p : Nat → Prop} : ∀ n, mFst p n ≤ n
  | 0 => Nat.le_refl 0
  | n + 1 => by
    show (if mFst p n < n then mFst p n else iC (p n) n (n + 1)) ≤ n + 1
    split
    · omega
    · by_cases c : p n
      · rw [iC_t c]; omega
      · rw [iC_f c]; exact Nat.le_refl _
theorem mI.grp {M : aM} (h : mI M) (r s : Nat) (ha : mN M 30 < 300) : mIx 1 (mGrp M r s) := by
  unfold mGrp
  split
  · exact mIx.weak h
  · have hg := h.ga
    have h1 : mI (pA (pA (pA M 49 (mN M 48) (mS M 30)) 50 (mN M 48) 0) 51 (mN M 48) 0) := ((h.qRv (b := 300) (by decide) ⟨mS_nI h (b := 300) (by decide), ha⟩ (by decide)).qF (by decide)).qF (by decide)
    exact mIx.pG h1 (by show mN M 48 < 300; omega)
theorem mI.begin {M : aM} (h : mI M) {r s : Nat} (t : Nat) (hr : r < 16) (hs : s < 16) (ha : mN M 30 < 300) : mI (mBegin M r s t) := by
  have e : mN (mGrp M r s) 30 = mN M 30 := by unfold mN; rw [mS_mGrp M r s _ (by decide)]
  have hg : mGrpI M r s < 300 := by
    have h1 : mGrpI M r s ≤ mN M 48 := mFst_le _
    have h2 := h.ga
    omega
  have h0 := h.grp r s ha
  show mI (mBeginA (mGrp M r s) r s t (mGrpI M r s))
  generalize mGrp M r s = N at h0 e ⊢
  generalize mGrpI M r s = g at hg ⊢
  unfold mBeginA
  simp only []
  rw [e]
  have hl : rgM (nI (mN M 30)) 300 := Or.inr ⟨by unfold nN; rw [nI_clamp (by omega)], by unfold nN; rw [nI_clamp (by omega)]; exact ha⟩
  exact mIx.pAl (((((((((((((h0.qR (b := 16) (by decide) hr (by decide)).qR (b := 16) (by decide) hs (by decide)).qF (by decide)).qF (by decide)).qF (by decide)).qF (by decide)).qF (by decide)).qF (by decide)).qF (by decide)).qF (by decide)).qF (by decide)).qR (b := 300) (by decide) hg (by decide)).qLa hl) e ha
theorem mS_begin (M : aM) (r s t k : Nat) (h1 : ¬ k = 48) (h2 : ¬ k = 30) : mS (mBegin M r s t) k = mS M k := by
  have e := mS_mGrp M r s k h1
  show mS (mBeginA (mGrp M r s) r s t (mGrpI M r s)) k = mS M k
  generalize mGrp M r s = N at e ⊢
  unfold mBeginA
  simp only []
  rw [mS_pS, if_neg h2]
  exact e
theorem mI.judge {M : aM} (h : mI M) {r s : Nat} (t : Nat) (hr : r < 16) (hs : s < 16) : mI (mJudge M r s t) := by
  have h1 := h.note (16 * r + s) t (mFound M r s t)
  unfold mJudge mTurn
  simp only []
  split
  · split
    · rename_i c2
      exact h1.begin t hr hs (by
        have e := mS_nI h1 (k := 30) (b := 300) (by decide)
        have b_ := mS_b h1 (k := 30) (b := 300) (by decide)
        have c3 := c2.2
        rw [e] at c3
        exact (nI_ltI (by omega) (by decide)).mp c3)
    · exact h1
  · split
    · exact (h1.qF (by decide)).qLa (Or.inl (by decide))
    · exact h1
theorem mS_judge (M : aM) (r s t k : Nat) (h1 : ¬ k = 48) (h2 : ¬ k = 30) : mS (mJudge M r s t) k = mS M k := by
  have e := mS_note M (16 * r + s) t (mFound M r s t) k
  unfold mJudge mTurn
  simp only []
  split
  · split
    · exact (mS_begin _ r s t k h1 h2).trans e
    · exact e
  · split
    · exact e
    · exact e

def FL (v : Int32) (k : Nat) (P : Nat → Prop) : Prop := (v = 0 ∧ ∀ j, j < k → ¬ P j) ∨ (v = 1 ∧ ∃ j, j < k ∧ P j)
theorem FL.z (P : Nat → Prop) : FL 0 0 P := Or.inl ⟨rfl, fun j hj => absurd hj (Nat.not_lt_zero j)⟩
theorem FL.keep {v : Int32} {k : Nat} {P : Nat → Prop} (h : FL v k P) (n : ¬ P k) : FL v (k + 1) P :=
  h.elim (fun z => Or.inl ⟨z.1, fun j hj => (Nat.lt_succ_iff_lt_or_eq.mp hj).elim (z.2 j) (fun e => by rw [e]; exact n)⟩) (fun z => Or.inr ⟨z.1, z.2.elim (fun j w => ⟨j, Nat.lt_succ_of_lt w.1, w.2⟩)⟩)
theorem FL.new {k : Nat} {P : Nat → Prop} (p : P k) : FL 1 (k + 1) P := Or.inr ⟨rfl, k, Nat.lt_succ_self k, p⟩
theorem FL.one {v : Int32} {k : Nat} {P : Nat → Prop} (h : FL v k P) (c : ¬ v = 0) : FL 1 (k + 1) P := h.elim (fun z => absurd z.1 c) (fun z => Or.inr ⟨rfl, z.2.elim (fun j w => ⟨j, Nat.lt_succ_of_lt w.1, w.2⟩)⟩)
theorem FL.zero {v : Int32} {k : Nat} {P : Nat → Prop} (h : FL v k P) (c : v = 0) (n : ¬ P k) : FL 0 (k + 1) P := by
  have h2 := h.keep n
  rw [c] at h2
  exact h2
theorem FL.t {v : Int32} {k : Nat} {P : Nat → Prop} (h : FL v k P) (c : ¬ v = 0) : ∃ j, j < k ∧ P j := h.elim (fun z => absurd z.1 c) (fun z => z.2)
theorem FL.f {v : Int32} {k : Nat} {P : Nat → Prop} (h : FL v k P) (c : v = 0) : ¬ ∃ j, j < k ∧ P j := h.elim (fun z w => w.elim (fun j q => z.2 j q.1 q.2)) (fun z => absurd (z.1.symm.trans c) (by decide))

set_option maxHeartbeats 4000000 in
set_option maxRecDepth 100000 in
theorem t_reason {b : Bool} {E : awE} {S : awS} {M : aM} {Q : Option Value → awS → Nat → Nat → Prop} (hm : mOk S) {g t : Nat} (hI : mI M) (hg : g < 300) (h : Q (some (.int (mReason M g t))) (putM S M) 0 0) : awT b E m_X12_reason [.ref (nm 13 0), .int (nI g), .int (nI t)] (putM S M) Q := by
  refine awT.of (by decide) (by decide) (Nat.le_of_ble_eq_true rfl) ?_
  have ea : mS M 30 = nI (mN M 30) := mS_nI hI (b := 300) (by decide)
  have hab : mN M 30 ≤ 300 := mS_b hI (by decide)
  have L : ∀ (m k : Nat) (v3 v4 v5 v6 : Int32), k + m = mN M 30 → FL v3 k (fun x => mA M 42 x = nI g ∧ mA M 34 x = 0 ∧ ¬ mA M 39 x = 0) → FL v4 k (fun x => mA M 42 x = nI g ∧ mA M 34 x = 0 ∧ (¬ mA M 39 x = 0 ∧ mA M 37 x ≤ nI t - mS M 44)) → FL v5 k (fun x => mA M 42 x = nI g ∧ mA M 34 x = 0 ∧ 0 < mA M 37 x) → FL v6 k (fun x => mA M 42 x = nI g ∧ mA M 34 x = 0 ∧ True) → awX b E m_X12_reason 14 [(7, .int (nI k)), (6, .int v6), (5, .int v5), (4, .int v4), (3, .int v3), (0, .ref (nm 13 0)), (1, .int (nI g)), (2, .int (nI t))] [] (putM S M) 0 0 Q := by
    intro m
    induction m with
    | zero =>
      intro k v3 v4 v5 v6 hm1 h3 h4 h5 h6
      refine ax_iload dX12_reason_14 rfl ?_
      refine ax_aload_n (i := 0) dX12_reason_16 rfl rfl rfl ?_
      refine ax_mS dX12_reason_17 fl_X12_284 rfl ?_
      refine ax_icmp_ge (tgt := 133) dX12_reason_20 (by decide) (fun c_20 => ?_) (fun c_20 => ?_)
      · have hk2 : k = mN M 30 := Nat.le_antisymm (by omega) (ge_of_n ea c_20 (by omega))
        subst hk2
        refine ax_aload_n (i := 0) dX12_reason_133 rfl rfl rfl ?_
        refine ax_mR hm dX12_reason_134 fl_X12_144 rfl (by decide) ?_
        refine ax_iload_n (i := 1) dX12_reason_137 rfl rfl ?_
        refine ax_mZN (N := 300) hm dX12_reason_138 rfl rfl (by decide) (by omega) ?_
        refine ax_if_ne (tgt := 153) dX12_reason_139 (by decide) (fun c_139 => ?_) (fun c_139 => ?_)
        · refine ax_iload_n (i := 3) dX12_reason_153 rfl rfl ?_
          refine ax_if_eq (tgt := 176) dX12_reason_154 (by decide) (fun c_154 => ?_) (fun c_154 => ?_)
          · refine ax_iload dX12_reason_176 rfl ?_
            refine ax_if_eq (tgt := 200) dX12_reason_178 (by decide) (fun c_178 => ?_) (fun c_178 => ?_)
            · refine ax_iload dX12_reason_200 rfl ?_
              refine ax_if_ne (tgt := 209) dX12_reason_202 (by decide) (fun c_202 => ?_) (fun c_202 => ?_)
              · refine ax_iconst (v := 0) dX12_reason_209 (by decide) ?_
                refine ax_iret dX12_reason_210 rfl rfl ?_
                exact fin1 h ((if_neg c_139).trans ((iC_f (show ¬ (mAny M g (fun x => ¬ mA M 39 x = 0) ∧ mA M 50 g + mS M 45 ≤ nI t) from fun z => h3.f c_154 z.1)).trans ((iC_f (show ¬ (mAny M g (fun x => 0 < mA M 37 x) ∧ mA M 50 g + mS M 46 ≤ nI t) from fun z => h5.f c_178 z.1)).trans (iC_t (h6.t c_202)))))
              · refine ax_iconst (v := 4) dX12_reason_205 (by decide) ?_
                refine ax_goto (tgt := 210) dX12_reason_206 (by decide) ?_
                refine ax_iret dX12_reason_210 rfl rfl ?_
                exact fin1 h ((if_neg c_139).trans ((iC_f (show ¬ (mAny M g (fun x => ¬ mA M 39 x = 0) ∧ mA M 50 g + mS M 45 ≤ nI t) from fun z => h3.f c_154 z.1)).trans ((iC_f (show ¬ (mAny M g (fun x => 0 < mA M 37 x) ∧ mA M 50 g + mS M 46 ≤ nI t) from fun z => h5.f c_178 z.1)).trans (iC_f (h6.f (Classical.not_not.mp c_202))))))
            · refine ax_iload_n (i := 2) dX12_reason_181 rfl rfl ?_
              refine ax_aload_n (i := 0) dX12_reason_182 rfl rfl rfl ?_
              refine ax_mR hm dX12_reason_183 fl_X12_141 rfl (by decide) ?_
              refine ax_iload_n (i := 1) dX12_reason_186 rfl rfl ?_
              refine ax_mIN (N := 300) hm dX12_reason_187 rfl rfl (by decide) (by omega) ?_
              refine ax_aload_n (i := 0) dX12_reason_188 rfl rfl rfl ?_
              refine ax_mS dX12_reason_189 fl_X12_132 rfl ?_
              refine ax_iadd dX12_reason_192 ?_
              refine ax_icmp_lt (tgt := 200) dX12_reason_193 (by decide) (fun c_193 => ?_) (fun c_193 => ?_)
              · refine ax_iload dX12_reason_200 rfl ?_
                refine ax_if_ne (tgt := 209) dX12_reason_202 (by decide) (fun c_202 => ?_) (fun c_202 => ?_)
                · refine ax_iconst (v := 0) dX12_reason_209 (by decide) ?_
                  refine ax_iret dX12_reason_210 rfl rfl ?_
                  exact fin1 h ((if_neg c_139).trans ((iC_f (show ¬ (mAny M g (fun x => ¬ mA M 39 x = 0) ∧ mA M 50 g + mS M 45 ≤ nI t) from fun z => h3.f c_154 z.1)).trans ((iC_f (show ¬ (mAny M g (fun x => 0 < mA M 37 x) ∧ mA M 50 g + mS M 46 ≤ nI t) from fun z => absurd c_193 (Int32.not_lt.mpr z.2))).trans (iC_t (h6.t c_202)))))
                · refine ax_iconst (v := 4) dX12_reason_205 (by decide) ?_
                  refine ax_goto (tgt := 210) dX12_reason_206 (by decide) ?_
                  refine ax_iret dX12_reason_210 rfl rfl ?_
                  exact fin1 h ((if_neg c_139).trans ((iC_f (show ¬ (mAny M g (fun x => ¬ mA M 39 x = 0) ∧ mA M 50 g + mS M 45 ≤ nI t) from fun z => h3.f c_154 z.1)).trans ((iC_f (show ¬ (mAny M g (fun x => 0 < mA M 37 x) ∧ mA M 50 g + mS M 46 ≤ nI t) from fun z => absurd c_193 (Int32.not_lt.mpr z.2))).trans (iC_f (h6.f (Classical.not_not.mp c_202))))))
              · refine ax_iconst (v := 3) dX12_reason_196 (by decide) ?_
                refine ax_goto (tgt := 210) dX12_reason_197 (by decide) ?_
                refine ax_iret dX12_reason_210 rfl rfl ?_
                exact fin1 h ((if_neg c_139).trans ((iC_f (show ¬ (mAny M g (fun x => ¬ mA M 39 x = 0) ∧ mA M 50 g + mS M 45 ≤ nI t) from fun z => h3.f c_154 z.1)).trans (iC_t ⟨h5.t c_178, Int32.not_lt.mp c_193⟩)))
          · refine ax_iload_n (i := 2) dX12_reason_157 rfl rfl ?_
            refine ax_aload_n (i := 0) dX12_reason_158 rfl rfl rfl ?_
            refine ax_mR hm dX12_reason_159 fl_X12_141 rfl (by decide) ?_
            refine ax_iload_n (i := 1) dX12_reason_162 rfl rfl ?_
            refine ax_mIN (N := 300) hm dX12_reason_163 rfl rfl (by decide) (by omega) ?_
            refine ax_aload_n (i := 0) dX12_reason_164 rfl rfl rfl ?_
            refine ax_mS dX12_reason_165 fl_X12_129 rfl ?_
            refine ax_iadd dX12_reason_168 ?_
            refine ax_icmp_lt (tgt := 176) dX12_reason_169 (by decide) (fun c_169 => ?_) (fun c_169 => ?_)
            · refine ax_iload dX12_reason_176 rfl ?_
              refine ax_if_eq (tgt := 200) dX12_reason_178 (by decide) (fun c_178 => ?_) (fun c_178 => ?_)
              · refine ax_iload dX12_reason_200 rfl ?_
                refine ax_if_ne (tgt := 209) dX12_reason_202 (by decide) (fun c_202 => ?_) (fun c_202 => ?_)
                · refine ax_iconst (v := 0) dX12_reason_209 (by decide) ?_
                  refine ax_iret dX12_reason_210 rfl rfl ?_
                  exact fin1 h ((if_neg c_139).trans ((iC_f (show ¬ (mAny M g (fun x => ¬ mA M 39 x = 0) ∧ mA M 50 g + mS M 45 ≤ nI t) from fun z => absurd c_169 (Int32.not_lt.mpr z.2))).trans ((iC_f (show ¬ (mAny M g (fun x => 0 < mA M 37 x) ∧ mA M 50 g + mS M 46 ≤ nI t) from fun z => h5.f c_178 z.1)).trans (iC_t (h6.t c_202)))))
                · refine ax_iconst (v := 4) dX12_reason_205 (by decide) ?_
                  refine ax_goto (tgt := 210) dX12_reason_206 (by decide) ?_
                  refine ax_iret dX12_reason_210 rfl rfl ?_
                  exact fin1 h ((if_neg c_139).trans ((iC_f (show ¬ (mAny M g (fun x => ¬ mA M 39 x = 0) ∧ mA M 50 g + mS M 45 ≤ nI t) from fun z => absurd c_169 (Int32.not_lt.mpr z.2))).trans ((iC_f (show ¬ (mAny M g (fun x => 0 < mA M 37 x) ∧ mA M 50 g + mS M 46 ≤ nI t) from fun z => h5.f c_178 z.1)).trans (iC_f (h6.f (Classical.not_not.mp c_202))))))
              · refine ax_iload_n (i := 2) dX12_reason_181 rfl rfl ?_
                refine ax_aload_n (i := 0) dX12_reason_182 rfl rfl rfl ?_
                refine ax_mR hm dX12_reason_183 fl_X12_141 rfl (by decide) ?_
                refine ax_iload_n (i := 1) dX12_reason_186 rfl rfl ?_
                refine ax_mIN (N := 300) hm dX12_reason_187 rfl rfl (by decide) (by omega) ?_
                refine ax_aload_n (i := 0) dX12_reason_188 rfl rfl rfl ?_
                refine ax_mS dX12_reason_189 fl_X12_132 rfl ?_
                refine ax_iadd dX12_reason_192 ?_
                refine ax_icmp_lt (tgt := 200) dX12_reason_193 (by decide) (fun c_193 => ?_) (fun c_193 => ?_)
                · refine ax_iload dX12_reason_200 rfl ?_
                  refine ax_if_ne (tgt := 209) dX12_reason_202 (by decide) (fun c_202 => ?_) (fun c_202 => ?_)
                  · refine ax_iconst (v := 0) dX12_reason_209 (by decide) ?_
                    refine ax_iret dX12_reason_210 rfl rfl ?_
                    exact fin1 h ((if_neg c_139).trans ((iC_f (show ¬ (mAny M g (fun x => ¬ mA M 39 x = 0) ∧ mA M 50 g + mS M 45 ≤ nI t) from fun z => absurd c_169 (Int32.not_lt.mpr z.2))).trans ((iC_f (show ¬ (mAny M g (fun x => 0 < mA M 37 x) ∧ mA M 50 g + mS M 46 ≤ nI t) from fun z => absurd c_193 (Int32.not_lt.mpr z.2))).trans (iC_t (h6.t c_202)))))
                  · refine ax_iconst (v := 4) dX12_reason_205 (by decide) ?_
                    refine ax_goto (tgt := 210) dX12_reason_206 (by decide) ?_
                    refine ax_iret dX12_reason_210 rfl rfl ?_
                    exact fin1 h ((if_neg c_139).trans ((iC_f (show ¬ (mAny M g (fun x => ¬ mA M 39 x = 0) ∧ mA M 50 g + mS M 45 ≤ nI t) from fun z => absurd c_169 (Int32.not_lt.mpr z.2))).trans ((iC_f (show ¬ (mAny M g (fun x => 0 < mA M 37 x) ∧ mA M 50 g + mS M 46 ≤ nI t) from fun z => absurd c_193 (Int32.not_lt.mpr z.2))).trans (iC_f (h6.f (Classical.not_not.mp c_202))))))
                · refine ax_iconst (v := 3) dX12_reason_196 (by decide) ?_
                  refine ax_goto (tgt := 210) dX12_reason_197 (by decide) ?_
                  refine ax_iret dX12_reason_210 rfl rfl ?_
                  exact fin1 h ((if_neg c_139).trans ((iC_f (show ¬ (mAny M g (fun x => ¬ mA M 39 x = 0) ∧ mA M 50 g + mS M 45 ≤ nI t) from fun z => absurd c_169 (Int32.not_lt.mpr z.2))).trans (iC_t ⟨h5.t c_178, Int32.not_lt.mp c_193⟩)))
            · refine ax_iconst (v := 2) dX12_reason_172 (by decide) ?_
              refine ax_goto (tgt := 210) dX12_reason_173 (by decide) ?_
              refine ax_iret dX12_reason_210 rfl rfl ?_
              exact fin1 h ((if_neg c_139).trans (iC_t ⟨h3.t c_154, Int32.not_lt.mp c_169⟩))
        · refine ax_iload dX12_reason_142 rfl ?_
          refine ax_if_eq (tgt := 151) dX12_reason_144 (by decide) (fun c_144 => ?_) (fun c_144 => ?_)
          · refine ax_iconst (v := 0) dX12_reason_151 (by decide) ?_
            refine ax_iret dX12_reason_152 rfl rfl ?_
            exact fin1 h ((if_pos (Classical.not_not.mp c_139)).trans (iC_f (h4.f c_144)))
          · refine ax_iconst (v := 1) dX12_reason_147 (by decide) ?_
            refine ax_goto (tgt := 152) dX12_reason_148 (by decide) ?_
            refine ax_iret dX12_reason_152 rfl rfl ?_
            exact fin1 h ((if_pos (Classical.not_not.mp c_139)).trans (iC_t (h4.t c_144)))
      · exact absurd (lt_of_n ea c_20 (by omega)) (by omega)
    | succ m ih =>
      intro k v3 v4 v5 v6 hm1 h3 h4 h5 h6
      refine ax_iload dX12_reason_14 rfl ?_
      refine ax_aload_n (i := 0) dX12_reason_16 rfl rfl rfl ?_
      refine ax_mS dX12_reason_17 fl_X12_284 rfl ?_
      refine ax_icmp_ge (tgt := 133) dX12_reason_20 (by decide) (fun c_20 => ?_) (fun c_20 => ?_)
      · exact absurd (ge_of_n ea c_20 (by omega)) (by omega)
      · have hk2 : k < mN M 30 := lt_of_n ea c_20 (by omega)
        refine ax_aload_n (i := 0) dX12_reason_23 rfl rfl rfl ?_
        refine ax_mR hm dX12_reason_24 fl_X12_119 rfl (by decide) ?_
        refine ax_iload dX12_reason_27 rfl ?_
        refine ax_mIN (N := 300) hm dX12_reason_29 rfl rfl (by decide) (by omega) ?_
        refine ax_iload_n (i := 1) dX12_reason_30 rfl rfl ?_
        refine ax_icmp_ne (tgt := 127) dX12_reason_31 (by decide) (fun c_31 => ?_) (fun c_31 => ?_)
        · refine ax_iinc (v := _ + 1) (lv' := [(7, _), (6, _), (5, _), (4, _), (3, _), (0, _), (1, _), (2, _)]) dX12_reason_127 rfl rfl (by decide) rfl ?_
          refine ax_goto (tgt := 14) dX12_reason_130 (by decide) ?_
          rw [nI_1]
          exact ax_loc rfl (ih (k + 1) _ _ _ _ (by omega) (h3.keep (fun z => c_31 z.1)) (h4.keep (fun z => c_31 z.1)) (h5.keep (fun z => c_31 z.1)) (h6.keep (fun z => c_31 z.1)))
        · refine ax_aload_n (i := 0) dX12_reason_34 rfl rfl rfl ?_
          refine ax_mR hm dX12_reason_35 fl_X12_95 rfl (by decide) ?_
          refine ax_iload dX12_reason_38 rfl ?_
          refine ax_mIN (N := 300) hm dX12_reason_40 rfl rfl (by decide) (by omega) ?_
          refine ax_if_ne (tgt := 127) dX12_reason_41 (by decide) (fun c_41 => ?_) (fun c_41 => ?_)
          · refine ax_iinc (v := _ + 1) (lv' := [(7, _), (6, _), (5, _), (4, _), (3, _), (0, _), (1, _), (2, _)]) dX12_reason_127 rfl rfl (by decide) rfl ?_
            refine ax_goto (tgt := 14) dX12_reason_130 (by decide) ?_
            rw [nI_1]
            exact ax_loc rfl (ih (k + 1) _ _ _ _ (by omega) (h3.keep (fun z => c_41 z.2.1)) (h4.keep (fun z => c_41 z.2.1)) (h5.keep (fun z => c_41 z.2.1)) (h6.keep (fun z => c_41 z.2.1)))
          · refine ax_iconst (v := 1) dX12_reason_44 (by decide) ?_
            refine ax_istore (lv' := [(6, _), (7, _), (5, _), (4, _), (3, _), (0, _), (1, _), (2, _)]) dX12_reason_45 (by decide) rfl ?_
            refine ax_iload dX12_reason_47 rfl ?_
            refine ax_if_ne (tgt := 62) dX12_reason_49 (by decide) (fun c_49 => ?_) (fun c_49 => ?_)
            · refine ax_iconst (v := 1) dX12_reason_62 (by decide) ?_
              refine ax_goto (tgt := 67) dX12_reason_63 (by decide) ?_
              refine ax_istore (lv' := [(5, _), (6, _), (7, _), (4, _), (3, _), (0, _), (1, _), (2, _)]) dX12_reason_67 (by decide) rfl ?_
              refine ax_iload_n (i := 3) dX12_reason_69 rfl rfl ?_
              refine ax_if_ne (tgt := 83) dX12_reason_70 (by decide) (fun c_70 => ?_) (fun c_70 => ?_)
              · refine ax_iconst (v := 1) dX12_reason_83 (by decide) ?_
                refine ax_goto (tgt := 88) dX12_reason_84 (by decide) ?_
                refine ax_istore_n (i := 3) (lv' := [(3, _), (5, _), (6, _), (7, _), (4, _), (0, _), (1, _), (2, _)]) dX12_reason_88 rfl (by decide) rfl ?_
                refine ax_iload dX12_reason_89 rfl ?_
                refine ax_if_ne (tgt := 120) dX12_reason_91 (by decide) (fun c_91 => ?_) (fun c_91 => ?_)
                · refine ax_iconst (v := 1) dX12_reason_120 (by decide) ?_
                  refine ax_goto (tgt := 125) dX12_reason_121 (by decide) ?_
                  refine ax_istore (lv' := [(4, _), (3, _), (5, _), (6, _), (7, _), (0, _), (1, _), (2, _)]) dX12_reason_125 (by decide) rfl ?_
                  refine ax_iinc (v := _ + 1) (lv' := [(7, _), (4, _), (3, _), (5, _), (6, _), (0, _), (1, _), (2, _)]) dX12_reason_127 rfl rfl (by decide) rfl ?_
                  refine ax_goto (tgt := 14) dX12_reason_130 (by decide) ?_
                  rw [nI_1]
                  exact ax_loc rfl (ih (k + 1) _ _ _ _ (by omega) (h3.one c_70) (h4.one c_91) (h5.one c_49) (FL.new ⟨Classical.not_not.mp c_31, Classical.not_not.mp c_41, trivial⟩))
                · refine ax_aload_n (i := 0) dX12_reason_94 rfl rfl rfl ?_
                  refine ax_mR hm dX12_reason_95 fl_X12_110 rfl (by decide) ?_
                  refine ax_iload dX12_reason_98 rfl ?_
                  refine ax_mZN (N := 300) hm dX12_reason_100 rfl rfl (by decide) (by omega) ?_
                  refine ax_if_eq (tgt := 124) dX12_reason_101 (by decide) (fun c_101 => ?_) (fun c_101 => ?_)
                  · refine ax_iconst (v := 0) dX12_reason_124 (by decide) ?_
                    refine ax_istore (lv' := [(4, _), (3, _), (5, _), (6, _), (7, _), (0, _), (1, _), (2, _)]) dX12_reason_125 (by decide) rfl ?_
                    refine ax_iinc (v := _ + 1) (lv' := [(7, _), (4, _), (3, _), (5, _), (6, _), (0, _), (1, _), (2, _)]) dX12_reason_127 rfl rfl (by decide) rfl ?_
                    refine ax_goto (tgt := 14) dX12_reason_130 (by decide) ?_
                    rw [nI_1]
                    exact ax_loc rfl (ih (k + 1) _ _ _ _ (by omega) (h3.one c_70) (h4.zero (Classical.not_not.mp c_91) (fun z => z.2.2.1 c_101)) (h5.one c_49) (FL.new ⟨Classical.not_not.mp c_31, Classical.not_not.mp c_41, trivial⟩))
                  · refine ax_aload_n (i := 0) dX12_reason_104 rfl rfl rfl ?_
                    refine ax_mR hm dX12_reason_105 fl_X12_104 rfl (by decide) ?_
                    refine ax_iload dX12_reason_108 rfl ?_
                    refine ax_mIN (N := 300) hm dX12_reason_110 rfl rfl (by decide) (by omega) ?_
                    refine ax_iload_n (i := 2) dX12_reason_111 rfl rfl ?_
                    refine ax_aload_n (i := 0) dX12_reason_112 rfl rfl rfl ?_
                    refine ax_mS dX12_reason_113 fl_X12_126 rfl ?_
                    refine ax_isub dX12_reason_116 ?_
                    refine ax_icmp_gt (tgt := 124) dX12_reason_117 (by decide) (fun c_117 => ?_) (fun c_117 => ?_)
                    · refine ax_iconst (v := 0) dX12_reason_124 (by decide) ?_
                      refine ax_istore (lv' := [(4, _), (3, _), (5, _), (6, _), (7, _), (0, _), (1, _), (2, _)]) dX12_reason_125 (by decide) rfl ?_
                      refine ax_iinc (v := _ + 1) (lv' := [(7, _), (4, _), (3, _), (5, _), (6, _), (0, _), (1, _), (2, _)]) dX12_reason_127 rfl rfl (by decide) rfl ?_
                      refine ax_goto (tgt := 14) dX12_reason_130 (by decide) ?_
                      rw [nI_1]
                      exact ax_loc rfl (ih (k + 1) _ _ _ _ (by omega) (h3.one c_70) (h4.zero (Classical.not_not.mp c_91) (fun z => absurd c_117 (Int32.not_lt.mpr z.2.2.2))) (h5.one c_49) (FL.new ⟨Classical.not_not.mp c_31, Classical.not_not.mp c_41, trivial⟩))
                    · refine ax_iconst (v := 1) dX12_reason_120 (by decide) ?_
                      refine ax_goto (tgt := 125) dX12_reason_121 (by decide) ?_
                      refine ax_istore (lv' := [(4, _), (3, _), (5, _), (6, _), (7, _), (0, _), (1, _), (2, _)]) dX12_reason_125 (by decide) rfl ?_
                      refine ax_iinc (v := _ + 1) (lv' := [(7, _), (4, _), (3, _), (5, _), (6, _), (0, _), (1, _), (2, _)]) dX12_reason_127 rfl rfl (by decide) rfl ?_
                      refine ax_goto (tgt := 14) dX12_reason_130 (by decide) ?_
                      rw [nI_1]
                      exact ax_loc rfl (ih (k + 1) _ _ _ _ (by omega) (h3.one c_70) (FL.new ⟨Classical.not_not.mp c_31, Classical.not_not.mp c_41, c_101, Int32.not_lt.mp c_117⟩) (h5.one c_49) (FL.new ⟨Classical.not_not.mp c_31, Classical.not_not.mp c_41, trivial⟩))
              · refine ax_aload_n (i := 0) dX12_reason_73 rfl rfl rfl ?_
                refine ax_mR hm dX12_reason_74 fl_X12_110 rfl (by decide) ?_
                refine ax_iload dX12_reason_77 rfl ?_
                refine ax_mZN (N := 300) hm dX12_reason_79 rfl rfl (by decide) (by omega) ?_
                refine ax_if_eq (tgt := 87) dX12_reason_80 (by decide) (fun c_80 => ?_) (fun c_80 => ?_)
                · refine ax_iconst (v := 0) dX12_reason_87 (by decide) ?_
                  refine ax_istore_n (i := 3) (lv' := [(3, _), (5, _), (6, _), (7, _), (4, _), (0, _), (1, _), (2, _)]) dX12_reason_88 rfl (by decide) rfl ?_
                  refine ax_iload dX12_reason_89 rfl ?_
                  refine ax_if_ne (tgt := 120) dX12_reason_91 (by decide) (fun c_91 => ?_) (fun c_91 => ?_)
                  · refine ax_iconst (v := 1) dX12_reason_120 (by decide) ?_
                    refine ax_goto (tgt := 125) dX12_reason_121 (by decide) ?_
                    refine ax_istore (lv' := [(4, _), (3, _), (5, _), (6, _), (7, _), (0, _), (1, _), (2, _)]) dX12_reason_125 (by decide) rfl ?_
                    refine ax_iinc (v := _ + 1) (lv' := [(7, _), (4, _), (3, _), (5, _), (6, _), (0, _), (1, _), (2, _)]) dX12_reason_127 rfl rfl (by decide) rfl ?_
                    refine ax_goto (tgt := 14) dX12_reason_130 (by decide) ?_
                    rw [nI_1]
                    exact ax_loc rfl (ih (k + 1) _ _ _ _ (by omega) (h3.zero (Classical.not_not.mp c_70) (fun z => z.2.2 c_80)) (h4.one c_91) (h5.one c_49) (FL.new ⟨Classical.not_not.mp c_31, Classical.not_not.mp c_41, trivial⟩))
                  · refine ax_aload_n (i := 0) dX12_reason_94 rfl rfl rfl ?_
                    refine ax_mR hm dX12_reason_95 fl_X12_110 rfl (by decide) ?_
                    refine ax_iload dX12_reason_98 rfl ?_
                    refine ax_mZN (N := 300) hm dX12_reason_100 rfl rfl (by decide) (by omega) ?_
                    refine ax_if_eq (tgt := 124) dX12_reason_101 (by decide) (fun c_101 => ?_) (fun c_101 => ?_)
                    · refine ax_iconst (v := 0) dX12_reason_124 (by decide) ?_
                      refine ax_istore (lv' := [(4, _), (3, _), (5, _), (6, _), (7, _), (0, _), (1, _), (2, _)]) dX12_reason_125 (by decide) rfl ?_
                      refine ax_iinc (v := _ + 1) (lv' := [(7, _), (4, _), (3, _), (5, _), (6, _), (0, _), (1, _), (2, _)]) dX12_reason_127 rfl rfl (by decide) rfl ?_
                      refine ax_goto (tgt := 14) dX12_reason_130 (by decide) ?_
                      rw [nI_1]
                      exact ax_loc rfl (ih (k + 1) _ _ _ _ (by omega) (h3.zero (Classical.not_not.mp c_70) (fun z => z.2.2 c_80)) (h4.zero (Classical.not_not.mp c_91) (fun z => z.2.2.1 c_101)) (h5.one c_49) (FL.new ⟨Classical.not_not.mp c_31, Classical.not_not.mp c_41, trivial⟩))
                    · refine ax_aload_n (i := 0) dX12_reason_104 rfl rfl rfl ?_
                      refine ax_mR hm dX12_reason_105 fl_X12_104 rfl (by decide) ?_
                      refine ax_iload dX12_reason_108 rfl ?_
                      refine ax_mIN (N := 300) hm dX12_reason_110 rfl rfl (by decide) (by omega) ?_
                      refine ax_iload_n (i := 2) dX12_reason_111 rfl rfl ?_
                      refine ax_aload_n (i := 0) dX12_reason_112 rfl rfl rfl ?_
                      refine ax_mS dX12_reason_113 fl_X12_126 rfl ?_
                      refine ax_isub dX12_reason_116 ?_
                      refine ax_icmp_gt (tgt := 124) dX12_reason_117 (by decide) (fun c_117 => ?_) (fun c_117 => ?_)
                      · refine ax_iconst (v := 0) dX12_reason_124 (by decide) ?_
                        refine ax_istore (lv' := [(4, _), (3, _), (5, _), (6, _), (7, _), (0, _), (1, _), (2, _)]) dX12_reason_125 (by decide) rfl ?_
                        refine ax_iinc (v := _ + 1) (lv' := [(7, _), (4, _), (3, _), (5, _), (6, _), (0, _), (1, _), (2, _)]) dX12_reason_127 rfl rfl (by decide) rfl ?_
                        refine ax_goto (tgt := 14) dX12_reason_130 (by decide) ?_
                        rw [nI_1]
                        exact ax_loc rfl (ih (k + 1) _ _ _ _ (by omega) (h3.zero (Classical.not_not.mp c_70) (fun z => z.2.2 c_80)) (h4.zero (Classical.not_not.mp c_91) (fun z => absurd c_117 (Int32.not_lt.mpr z.2.2.2))) (h5.one c_49) (FL.new ⟨Classical.not_not.mp c_31, Classical.not_not.mp c_41, trivial⟩))
                      · refine ax_iconst (v := 1) dX12_reason_120 (by decide) ?_
                        refine ax_goto (tgt := 125) dX12_reason_121 (by decide) ?_
                        refine ax_istore (lv' := [(4, _), (3, _), (5, _), (6, _), (7, _), (0, _), (1, _), (2, _)]) dX12_reason_125 (by decide) rfl ?_
                        refine ax_iinc (v := _ + 1) (lv' := [(7, _), (4, _), (3, _), (5, _), (6, _), (0, _), (1, _), (2, _)]) dX12_reason_127 rfl rfl (by decide) rfl ?_
                        refine ax_goto (tgt := 14) dX12_reason_130 (by decide) ?_
                        rw [nI_1]
                        exact ax_loc rfl (ih (k + 1) _ _ _ _ (by omega) (h3.zero (Classical.not_not.mp c_70) (fun z => z.2.2 c_80)) (FL.new ⟨Classical.not_not.mp c_31, Classical.not_not.mp c_41, c_101, Int32.not_lt.mp c_117⟩) (h5.one c_49) (FL.new ⟨Classical.not_not.mp c_31, Classical.not_not.mp c_41, trivial⟩))
                · refine ax_iconst (v := 1) dX12_reason_83 (by decide) ?_
                  refine ax_goto (tgt := 88) dX12_reason_84 (by decide) ?_
                  refine ax_istore_n (i := 3) (lv' := [(3, _), (5, _), (6, _), (7, _), (4, _), (0, _), (1, _), (2, _)]) dX12_reason_88 rfl (by decide) rfl ?_
                  refine ax_iload dX12_reason_89 rfl ?_
                  refine ax_if_ne (tgt := 120) dX12_reason_91 (by decide) (fun c_91 => ?_) (fun c_91 => ?_)
                  · refine ax_iconst (v := 1) dX12_reason_120 (by decide) ?_
                    refine ax_goto (tgt := 125) dX12_reason_121 (by decide) ?_
                    refine ax_istore (lv' := [(4, _), (3, _), (5, _), (6, _), (7, _), (0, _), (1, _), (2, _)]) dX12_reason_125 (by decide) rfl ?_
                    refine ax_iinc (v := _ + 1) (lv' := [(7, _), (4, _), (3, _), (5, _), (6, _), (0, _), (1, _), (2, _)]) dX12_reason_127 rfl rfl (by decide) rfl ?_
                    refine ax_goto (tgt := 14) dX12_reason_130 (by decide) ?_
                    rw [nI_1]
                    exact ax_loc rfl (ih (k + 1) _ _ _ _ (by omega) (FL.new ⟨Classical.not_not.mp c_31, Classical.not_not.mp c_41, c_80⟩) (h4.one c_91) (h5.one c_49) (FL.new ⟨Classical.not_not.mp c_31, Classical.not_not.mp c_41, trivial⟩))
                  · refine ax_aload_n (i := 0) dX12_reason_94 rfl rfl rfl ?_
                    refine ax_mR hm dX12_reason_95 fl_X12_110 rfl (by decide) ?_
                    refine ax_iload dX12_reason_98 rfl ?_
                    refine ax_mZN (N := 300) hm dX12_reason_100 rfl rfl (by decide) (by omega) ?_
                    refine ax_if_eq (tgt := 124) dX12_reason_101 (by decide) (fun c_101 => ?_) (fun c_101 => ?_)
                    · refine ax_iconst (v := 0) dX12_reason_124 (by decide) ?_
                      refine ax_istore (lv' := [(4, _), (3, _), (5, _), (6, _), (7, _), (0, _), (1, _), (2, _)]) dX12_reason_125 (by decide) rfl ?_
                      refine ax_iinc (v := _ + 1) (lv' := [(7, _), (4, _), (3, _), (5, _), (6, _), (0, _), (1, _), (2, _)]) dX12_reason_127 rfl rfl (by decide) rfl ?_
                      refine ax_goto (tgt := 14) dX12_reason_130 (by decide) ?_
                      rw [nI_1]
                      exact ax_loc rfl (ih (k + 1) _ _ _ _ (by omega) (FL.new ⟨Classical.not_not.mp c_31, Classical.not_not.mp c_41, c_80⟩) (h4.zero (Classical.not_not.mp c_91) (fun z => z.2.2.1 c_101)) (h5.one c_49) (FL.new ⟨Classical.not_not.mp c_31, Classical.not_not.mp c_41, trivial⟩))
                    · refine ax_aload_n (i := 0) dX12_reason_104 rfl rfl rfl ?_
                      refine ax_mR hm dX12_reason_105 fl_X12_104 rfl (by decide) ?_
                      refine ax_iload dX12_reason_108 rfl ?_
                      refine ax_mIN (N := 300) hm dX12_reason_110 rfl rfl (by decide) (by omega) ?_
                      refine ax_iload_n (i := 2) dX12_reason_111 rfl rfl ?_
                      refine ax_aload_n (i := 0) dX12_reason_112 rfl rfl rfl ?_
                      refine ax_mS dX12_reason_113 fl_X12_126 rfl ?_
                      refine ax_isub dX12_reason_116 ?_
                      refine ax_icmp_gt (tgt := 124) dX12_reason_117 (by decide) (fun c_117 => ?_) (fun c_117 => ?_)
                      · refine ax_iconst (v := 0) dX12_reason_124 (by decide) ?_
                        refine ax_istore (lv' := [(4, _), (3, _), (5, _), (6, _), (7, _), (0, _), (1, _), (2, _)]) dX12_reason_125 (by decide) rfl ?_
                        refine ax_iinc (v := _ + 1) (lv' := [(7, _), (4, _), (3, _), (5, _), (6, _), (0, _), (1, _), (2, _)]) dX12_reason_127 rfl rfl (by decide) rfl ?_
                        refine ax_goto (tgt := 14) dX12_reason_130 (by decide) ?_
                        rw [nI_1]
                        exact ax_loc rfl (ih (k + 1) _ _ _ _ (by omega) (FL.new ⟨Classical.not_not.mp c_31, Classical.not_not.mp c_41, c_80⟩) (h4.zero (Classical.not_not.mp c_91) (fun z => absurd c_117 (Int32.not_lt.mpr z.2.2.2))) (h5.one c_49) (FL.new ⟨Classical.not_not.mp c_31, Classical.not_not.mp c_41, trivial⟩))
                      · refine ax_iconst (v := 1) dX12_reason_120 (by decide) ?_
                        refine ax_goto (tgt := 125) dX12_reason_121 (by decide) ?_
                        refine ax_istore (lv' := [(4, _), (3, _), (5, _), (6, _), (7, _), (0, _), (1, _), (2, _)]) dX12_reason_125 (by decide) rfl ?_
                        refine ax_iinc (v := _ + 1) (lv' := [(7, _), (4, _), (3, _), (5, _), (6, _), (0, _), (1, _), (2, _)]) dX12_reason_127 rfl rfl (by decide) rfl ?_
                        refine ax_goto (tgt := 14) dX12_reason_130 (by decide) ?_
                        rw [nI_1]
                        exact ax_loc rfl (ih (k + 1) _ _ _ _ (by omega) (FL.new ⟨Classical.not_not.mp c_31, Classical.not_not.mp c_41, c_80⟩) (FL.new ⟨Classical.not_not.mp c_31, Classical.not_not.mp c_41, c_101, Int32.not_lt.mp c_117⟩) (h5.one c_49) (FL.new ⟨Classical.not_not.mp c_31, Classical.not_not.mp c_41, trivial⟩))
            · refine ax_aload_n (i := 0) dX12_reason_52 rfl rfl rfl ?_
              refine ax_mR hm dX12_reason_53 fl_X12_104 rfl (by decide) ?_
              refine ax_iload dX12_reason_56 rfl ?_
              refine ax_mIN (N := 300) hm dX12_reason_58 rfl rfl (by decide) (by omega) ?_
              refine ax_if_le (tgt := 66) dX12_reason_59 (by decide) (fun c_59 => ?_) (fun c_59 => ?_)
              · refine ax_iconst (v := 0) dX12_reason_66 (by decide) ?_
                refine ax_istore (lv' := [(5, _), (6, _), (7, _), (4, _), (3, _), (0, _), (1, _), (2, _)]) dX12_reason_67 (by decide) rfl ?_
                refine ax_iload_n (i := 3) dX12_reason_69 rfl rfl ?_
                refine ax_if_ne (tgt := 83) dX12_reason_70 (by decide) (fun c_70 => ?_) (fun c_70 => ?_)
                · refine ax_iconst (v := 1) dX12_reason_83 (by decide) ?_
                  refine ax_goto (tgt := 88) dX12_reason_84 (by decide) ?_
                  refine ax_istore_n (i := 3) (lv' := [(3, _), (5, _), (6, _), (7, _), (4, _), (0, _), (1, _), (2, _)]) dX12_reason_88 rfl (by decide) rfl ?_
                  refine ax_iload dX12_reason_89 rfl ?_
                  refine ax_if_ne (tgt := 120) dX12_reason_91 (by decide) (fun c_91 => ?_) (fun c_91 => ?_)
                  · refine ax_iconst (v := 1) dX12_reason_120 (by decide) ?_
                    refine ax_goto (tgt := 125) dX12_reason_121 (by decide) ?_
                    refine ax_istore (lv' := [(4, _), (3, _), (5, _), (6, _), (7, _), (0, _), (1, _), (2, _)]) dX12_reason_125 (by decide) rfl ?_
                    refine ax_iinc (v := _ + 1) (lv' := [(7, _), (4, _), (3, _), (5, _), (6, _), (0, _), (1, _), (2, _)]) dX12_reason_127 rfl rfl (by decide) rfl ?_
                    refine ax_goto (tgt := 14) dX12_reason_130 (by decide) ?_
                    rw [nI_1]
                    exact ax_loc rfl (ih (k + 1) _ _ _ _ (by omega) (h3.one c_70) (h4.one c_91) (h5.zero (Classical.not_not.mp c_49) (fun z => absurd c_59 (Int32.not_le.mpr z.2.2))) (FL.new ⟨Classical.not_not.mp c_31, Classical.not_not.mp c_41, trivial⟩))
                  · refine ax_aload_n (i := 0) dX12_reason_94 rfl rfl rfl ?_
                    refine ax_mR hm dX12_reason_95 fl_X12_110 rfl (by decide) ?_
                    refine ax_iload dX12_reason_98 rfl ?_
                    refine ax_mZN (N := 300) hm dX12_reason_100 rfl rfl (by decide) (by omega) ?_
                    refine ax_if_eq (tgt := 124) dX12_reason_101 (by decide) (fun c_101 => ?_) (fun c_101 => ?_)
                    · refine ax_iconst (v := 0) dX12_reason_124 (by decide) ?_
                      refine ax_istore (lv' := [(4, _), (3, _), (5, _), (6, _), (7, _), (0, _), (1, _), (2, _)]) dX12_reason_125 (by decide) rfl ?_
                      refine ax_iinc (v := _ + 1) (lv' := [(7, _), (4, _), (3, _), (5, _), (6, _), (0, _), (1, _), (2, _)]) dX12_reason_127 rfl rfl (by decide) rfl ?_
                      refine ax_goto (tgt := 14) dX12_reason_130 (by decide) ?_
                      rw [nI_1]
                      exact ax_loc rfl (ih (k + 1) _ _ _ _ (by omega) (h3.one c_70) (h4.zero (Classical.not_not.mp c_91) (fun z => z.2.2.1 c_101)) (h5.zero (Classical.not_not.mp c_49) (fun z => absurd c_59 (Int32.not_le.mpr z.2.2))) (FL.new ⟨Classical.not_not.mp c_31, Classical.not_not.mp c_41, trivial⟩))
                    · refine ax_aload_n (i := 0) dX12_reason_104 rfl rfl rfl ?_
                      refine ax_mR hm dX12_reason_105 fl_X12_104 rfl (by decide) ?_
                      refine ax_iload dX12_reason_108 rfl ?_
                      refine ax_mIN (N := 300) hm dX12_reason_110 rfl rfl (by decide) (by omega) ?_
                      refine ax_iload_n (i := 2) dX12_reason_111 rfl rfl ?_
                      refine ax_aload_n (i := 0) dX12_reason_112 rfl rfl rfl ?_
                      refine ax_mS dX12_reason_113 fl_X12_126 rfl ?_
                      refine ax_isub dX12_reason_116 ?_
                      refine ax_icmp_gt (tgt := 124) dX12_reason_117 (by decide) (fun c_117 => ?_) (fun c_117 => ?_)
                      · refine ax_iconst (v := 0) dX12_reason_124 (by decide) ?_
                        refine ax_istore (lv' := [(4, _), (3, _), (5, _), (6, _), (7, _), (0, _), (1, _), (2, _)]) dX12_reason_125 (by decide) rfl ?_
                        refine ax_iinc (v := _ + 1) (lv' := [(7, _), (4, _), (3, _), (5, _), (6, _), (0, _), (1, _), (2, _)]) dX12_reason_127 rfl rfl (by decide) rfl ?_
                        refine ax_goto (tgt := 14) dX12_reason_130 (by decide) ?_
                        rw [nI_1]
                        exact ax_loc rfl (ih (k + 1) _ _ _ _ (by omega) (h3.one c_70) (h4.zero (Classical.not_not.mp c_91) (fun z => absurd c_117 (Int32.not_lt.mpr z.2.2.2))) (h5.zero (Classical.not_not.mp c_49) (fun z => absurd c_59 (Int32.not_le.mpr z.2.2))) (FL.new ⟨Classical.not_not.mp c_31, Classical.not_not.mp c_41, trivial⟩))
                      · refine ax_iconst (v := 1) dX12_reason_120 (by decide) ?_
                        refine ax_goto (tgt := 125) dX12_reason_121 (by decide) ?_
                        refine ax_istore (lv' := [(4, _), (3, _), (5, _), (6, _), (7, _), (0, _), (1, _), (2, _)]) dX12_reason_125 (by decide) rfl ?_
                        refine ax_iinc (v := _ + 1) (lv' := [(7, _), (4, _), (3, _), (5, _), (6, _), (0, _), (1, _), (2, _)]) dX12_reason_127 rfl rfl (by decide) rfl ?_
                        refine ax_goto (tgt := 14) dX12_reason_130 (by decide) ?_
                        rw [nI_1]
                        exact ax_loc rfl (ih (k + 1) _ _ _ _ (by omega) (h3.one c_70) (FL.new ⟨Classical.not_not.mp c_31, Classical.not_not.mp c_41, c_101, Int32.not_lt.mp c_117⟩) (h5.zero (Classical.not_not.mp c_49) (fun z => absurd c_59 (Int32.not_le.mpr z.2.2))) (FL.new ⟨Classical.not_not.mp c_31, Classical.not_not.mp c_41, trivial⟩))
                · refine ax_aload_n (i := 0) dX12_reason_73 rfl rfl rfl ?_
                  refine ax_mR hm dX12_reason_74 fl_X12_110 rfl (by decide) ?_
                  refine ax_iload dX12_reason_77 rfl ?_
                  refine ax_mZN (N := 300) hm dX12_reason_79 rfl rfl (by decide) (by omega) ?_
                  refine ax_if_eq (tgt := 87) dX12_reason_80 (by decide) (fun c_80 => ?_) (fun c_80 => ?_)
                  · refine ax_iconst (v := 0) dX12_reason_87 (by decide) ?_
                    refine ax_istore_n (i := 3) (lv' := [(3, _), (5, _), (6, _), (7, _), (4, _), (0, _), (1, _), (2, _)]) dX12_reason_88 rfl (by decide) rfl ?_
                    refine ax_iload dX12_reason_89 rfl ?_
                    refine ax_if_ne (tgt := 120) dX12_reason_91 (by decide) (fun c_91 => ?_) (fun c_91 => ?_)
                    · refine ax_iconst (v := 1) dX12_reason_120 (by decide) ?_
                      refine ax_goto (tgt := 125) dX12_reason_121 (by decide) ?_
                      refine ax_istore (lv' := [(4, _), (3, _), (5, _), (6, _), (7, _), (0, _), (1, _), (2, _)]) dX12_reason_125 (by decide) rfl ?_
                      refine ax_iinc (v := _ + 1) (lv' := [(7, _), (4, _), (3, _), (5, _), (6, _), (0, _), (1, _), (2, _)]) dX12_reason_127 rfl rfl (by decide) rfl ?_
                      refine ax_goto (tgt := 14) dX12_reason_130 (by decide) ?_
                      rw [nI_1]
                      exact ax_loc rfl (ih (k + 1) _ _ _ _ (by omega) (h3.zero (Classical.not_not.mp c_70) (fun z => z.2.2 c_80)) (h4.one c_91) (h5.zero (Classical.not_not.mp c_49) (fun z => absurd c_59 (Int32.not_le.mpr z.2.2))) (FL.new ⟨Classical.not_not.mp c_31, Classical.not_not.mp c_41, trivial⟩))
                    · refine ax_aload_n (i := 0) dX12_reason_94 rfl rfl rfl ?_
                      refine ax_mR hm dX12_reason_95 fl_X12_110 rfl (by decide) ?_
                      refine ax_iload dX12_reason_98 rfl ?_
                      refine ax_mZN (N := 300) hm dX12_reason_100 rfl rfl (by decide) (by omega) ?_
                      refine ax_if_eq (tgt := 124) dX12_reason_101 (by decide) (fun c_101 => ?_) (fun c_101 => ?_)
                      · refine ax_iconst (v := 0) dX12_reason_124 (by decide) ?_
                        refine ax_istore (lv' := [(4, _), (3, _), (5, _), (6, _), (7, _), (0, _), (1, _), (2, _)]) dX12_reason_125 (by decide) rfl ?_
                        refine ax_iinc (v := _ + 1) (lv' := [(7, _), (4, _), (3, _), (5, _), (6, _), (0, _), (1, _), (2, _)]) dX12_reason_127 rfl rfl (by decide) rfl ?_
                        refine ax_goto (tgt := 14) dX12_reason_130 (by decide) ?_
                        rw [nI_1]
                        exact ax_loc rfl (ih (k + 1) _ _ _ _ (by omega) (h3.zero (Classical.not_not.mp c_70) (fun z => z.2.2 c_80)) (h4.zero (Classical.not_not.mp c_91) (fun z => z.2.2.1 c_101)) (h5.zero (Classical.not_not.mp c_49) (fun z => absurd c_59 (Int32.not_le.mpr z.2.2))) (FL.new ⟨Classical.not_not.mp c_31, Classical.not_not.mp c_41, trivial⟩))
                      · refine ax_aload_n (i := 0) dX12_reason_104 rfl rfl rfl ?_
                        refine ax_mR hm dX12_reason_105 fl_X12_104 rfl (by decide) ?_
                        refine ax_iload dX12_reason_108 rfl ?_
                        refine ax_mIN (N := 300) hm dX12_reason_110 rfl rfl (by decide) (by omega) ?_
                        refine ax_iload_n (i := 2) dX12_reason_111 rfl rfl ?_
                        refine ax_aload_n (i := 0) dX12_reason_112 rfl rfl rfl ?_
                        refine ax_mS dX12_reason_113 fl_X12_126 rfl ?_
                        refine ax_isub dX12_reason_116 ?_
                        refine ax_icmp_gt (tgt := 124) dX12_reason_117 (by decide) (fun c_117 => ?_) (fun c_117 => ?_)
                        · refine ax_iconst (v := 0) dX12_reason_124 (by decide) ?_
                          refine ax_istore (lv' := [(4, _), (3, _), (5, _), (6, _), (7, _), (0, _), (1, _), (2, _)]) dX12_reason_125 (by decide) rfl ?_
                          refine ax_iinc (v := _ + 1) (lv' := [(7, _), (4, _), (3, _), (5, _), (6, _), (0, _), (1, _), (2, _)]) dX12_reason_127 rfl rfl (by decide) rfl ?_
                          refine ax_goto (tgt := 14) dX12_reason_130 (by decide) ?_
                          rw [nI_1]
                          exact ax_loc rfl (ih (k + 1) _ _ _ _ (by omega) (h3.zero (Classical.not_not.mp c_70) (fun z => z.2.2 c_80)) (h4.zero (Classical.not_not.mp c_91) (fun z => absurd c_117 (Int32.not_lt.mpr z.2.2.2))) (h5.zero (Classical.not_not.mp c_49) (fun z => absurd c_59 (Int32.not_le.mpr z.2.2))) (FL.new ⟨Classical.not_not.mp c_31, Classical.not_not.mp c_41, trivial⟩))
                        · refine ax_iconst (v := 1) dX12_reason_120 (by decide) ?_
                          refine ax_goto (tgt := 125) dX12_reason_121 (by decide) ?_
                          refine ax_istore (lv' := [(4, _), (3, _), (5, _), (6, _), (7, _), (0, _), (1, _), (2, _)]) dX12_reason_125 (by decide) rfl ?_
                          refine ax_iinc (v := _ + 1) (lv' := [(7, _), (4, _), (3, _), (5, _), (6, _), (0, _), (1, _), (2, _)]) dX12_reason_127 rfl rfl (by decide) rfl ?_
                          refine ax_goto (tgt := 14) dX12_reason_130 (by decide) ?_
                          rw [nI_1]
                          exact ax_loc rfl (ih (k + 1) _ _ _ _ (by omega) (h3.zero (Classical.not_not.mp c_70) (fun z => z.2.2 c_80)) (FL.new ⟨Classical.not_not.mp c_31, Classical.not_not.mp c_41, c_101, Int32.not_lt.mp c_117⟩) (h5.zero (Classical.not_not.mp c_49) (fun z => absurd c_59 (Int32.not_le.mpr z.2.2))) (FL.new ⟨Classical.not_not.mp c_31, Classical.not_not.mp c_41, trivial⟩))
                  · refine ax_iconst (v := 1) dX12_reason_83 (by decide) ?_
                    refine ax_goto (tgt := 88) dX12_reason_84 (by decide) ?_
                    refine ax_istore_n (i := 3) (lv' := [(3, _), (5, _), (6, _), (7, _), (4, _), (0, _), (1, _), (2, _)]) dX12_reason_88 rfl (by decide) rfl ?_
                    refine ax_iload dX12_reason_89 rfl ?_
                    refine ax_if_ne (tgt := 120) dX12_reason_91 (by decide) (fun c_91 => ?_) (fun c_91 => ?_)
                    · refine ax_iconst (v := 1) dX12_reason_120 (by decide) ?_
                      refine ax_goto (tgt := 125) dX12_reason_121 (by decide) ?_
                      refine ax_istore (lv' := [(4, _), (3, _), (5, _), (6, _), (7, _), (0, _), (1, _), (2, _)]) dX12_reason_125 (by decide) rfl ?_
                      refine ax_iinc (v := _ + 1) (lv' := [(7, _), (4, _), (3, _), (5, _), (6, _), (0, _), (1, _), (2, _)]) dX12_reason_127 rfl rfl (by decide) rfl ?_
                      refine ax_goto (tgt := 14) dX12_reason_130 (by decide) ?_
                      rw [nI_1]
                      exact ax_loc rfl (ih (k + 1) _ _ _ _ (by omega) (FL.new ⟨Classical.not_not.mp c_31, Classical.not_not.mp c_41, c_80⟩) (h4.one c_91) (h5.zero (Classical.not_not.mp c_49) (fun z => absurd c_59 (Int32.not_le.mpr z.2.2))) (FL.new ⟨Classical.not_not.mp c_31, Classical.not_not.mp c_41, trivial⟩))
                    · refine ax_aload_n (i := 0) dX12_reason_94 rfl rfl rfl ?_
                      refine ax_mR hm dX12_reason_95 fl_X12_110 rfl (by decide) ?_
                      refine ax_iload dX12_reason_98 rfl ?_
                      refine ax_mZN (N := 300) hm dX12_reason_100 rfl rfl (by decide) (by omega) ?_
                      refine ax_if_eq (tgt := 124) dX12_reason_101 (by decide) (fun c_101 => ?_) (fun c_101 => ?_)
                      · refine ax_iconst (v := 0) dX12_reason_124 (by decide) ?_
                        refine ax_istore (lv' := [(4, _), (3, _), (5, _), (6, _), (7, _), (0, _), (1, _), (2, _)]) dX12_reason_125 (by decide) rfl ?_
                        refine ax_iinc (v := _ + 1) (lv' := [(7, _), (4, _), (3, _), (5, _), (6, _), (0, _), (1, _), (2, _)]) dX12_reason_127 rfl rfl (by decide) rfl ?_
                        refine ax_goto (tgt := 14) dX12_reason_130 (by decide) ?_
                        rw [nI_1]
                        exact ax_loc rfl (ih (k + 1) _ _ _ _ (by omega) (FL.new ⟨Classical.not_not.mp c_31, Classical.not_not.mp c_41, c_80⟩) (h4.zero (Classical.not_not.mp c_91) (fun z => z.2.2.1 c_101)) (h5.zero (Classical.not_not.mp c_49) (fun z => absurd c_59 (Int32.not_le.mpr z.2.2))) (FL.new ⟨Classical.not_not.mp c_31, Classical.not_not.mp c_41, trivial⟩))
                      · refine ax_aload_n (i := 0) dX12_reason_104 rfl rfl rfl ?_
                        refine ax_mR hm dX12_reason_105 fl_X12_104 rfl (by decide) ?_
                        refine ax_iload dX12_reason_108 rfl ?_
                        refine ax_mIN (N := 300) hm dX12_reason_110 rfl rfl (by decide) (by omega) ?_
                        refine ax_iload_n (i := 2) dX12_reason_111 rfl rfl ?_
                        refine ax_aload_n (i := 0) dX12_reason_112 rfl rfl rfl ?_
                        refine ax_mS dX12_reason_113 fl_X12_126 rfl ?_
                        refine ax_isub dX12_reason_116 ?_
                        refine ax_icmp_gt (tgt := 124) dX12_reason_117 (by decide) (fun c_117 => ?_) (fun c_117 => ?_)
                        · refine ax_iconst (v := 0) dX12_reason_124 (by decide) ?_
                          refine ax_istore (lv' := [(4, _), (3, _), (5, _), (6, _), (7, _), (0, _), (1, _), (2, _)]) dX12_reason_125 (by decide) rfl ?_
                          refine ax_iinc (v := _ + 1) (lv' := [(7, _), (4, _), (3, _), (5, _), (6, _), (0, _), (1, _), (2, _)]) dX12_reason_127 rfl rfl (by decide) rfl ?_
                          refine ax_goto (tgt := 14) dX12_reason_130 (by decide) ?_
                          rw [nI_1]
                          exact ax_loc rfl (ih (k + 1) _ _ _ _ (by omega) (FL.new ⟨Classical.not_not.mp c_31, Classical.not_not.mp c_41, c_80⟩) (h4.zero (Classical.not_not.mp c_91) (fun z => absurd c_117 (Int32.not_lt.mpr z.2.2.2))) (h5.zero (Classical.not_not.mp c_49) (fun z => absurd c_59 (Int32.not_le.mpr z.2.2))) (FL.new ⟨Classical.not_not.mp c_31, Classical.not_not.mp c_41, trivial⟩))
                        · refine ax_iconst (v := 1) dX12_reason_120 (by decide) ?_
                          refine ax_goto (tgt := 125) dX12_reason_121 (by decide) ?_
                          refine ax_istore (lv' := [(4, _), (3, _), (5, _), (6, _), (7, _), (0, _), (1, _), (2, _)]) dX12_reason_125 (by decide) rfl ?_
                          refine ax_iinc (v := _ + 1) (lv' := [(7, _), (4, _), (3, _), (5, _), (6, _), (0, _), (1, _), (2, _)]) dX12_reason_127 rfl rfl (by decide) rfl ?_
                          refine ax_goto (tgt := 14) dX12_reason_130 (by decide) ?_
                          rw [nI_1]
                          exact ax_loc rfl (ih (k + 1) _ _ _ _ (by omega) (FL.new ⟨Classical.not_not.mp c_31, Classical.not_not.mp c_41, c_80⟩) (FL.new ⟨Classical.not_not.mp c_31, Classical.not_not.mp c_41, c_101, Int32.not_lt.mp c_117⟩) (h5.zero (Classical.not_not.mp c_49) (fun z => absurd c_59 (Int32.not_le.mpr z.2.2))) (FL.new ⟨Classical.not_not.mp c_31, Classical.not_not.mp c_41, trivial⟩))
              · refine ax_iconst (v := 1) dX12_reason_62 (by decide) ?_
                refine ax_goto (tgt := 67) dX12_reason_63 (by decide) ?_
                refine ax_istore (lv' := [(5, _), (6, _), (7, _), (4, _), (3, _), (0, _), (1, _), (2, _)]) dX12_reason_67 (by decide) rfl ?_
                refine ax_iload_n (i := 3) dX12_reason_69 rfl rfl ?_
                refine ax_if_ne (tgt := 83) dX12_reason_70 (by decide) (fun c_70 => ?_) (fun c_70 => ?_)
                · refine ax_iconst (v := 1) dX12_reason_83 (by decide) ?_
                  refine ax_goto (tgt := 88) dX12_reason_84 (by decide) ?_
                  refine ax_istore_n (i := 3) (lv' := [(3, _), (5, _), (6, _), (7, _), (4, _), (0, _), (1, _), (2, _)]) dX12_reason_88 rfl (by decide) rfl ?_
                  refine ax_iload dX12_reason_89 rfl ?_
                  refine ax_if_ne (tgt := 120) dX12_reason_91 (by decide) (fun c_91 => ?_) (fun c_91 => ?_)
                  · refine ax_iconst (v := 1) dX12_reason_120 (by decide) ?_
                    refine ax_goto (tgt := 125) dX12_reason_121 (by decide) ?_
                    refine ax_istore (lv' := [(4, _), (3, _), (5, _), (6, _), (7, _), (0, _), (1, _), (2, _)]) dX12_reason_125 (by decide) rfl ?_
                    refine ax_iinc (v := _ + 1) (lv' := [(7, _), (4, _), (3, _), (5, _), (6, _), (0, _), (1, _), (2, _)]) dX12_reason_127 rfl rfl (by decide) rfl ?_
                    refine ax_goto (tgt := 14) dX12_reason_130 (by decide) ?_
                    rw [nI_1]
                    exact ax_loc rfl (ih (k + 1) _ _ _ _ (by omega) (h3.one c_70) (h4.one c_91) (FL.new ⟨Classical.not_not.mp c_31, Classical.not_not.mp c_41, Int32.not_le.mp c_59⟩) (FL.new ⟨Classical.not_not.mp c_31, Classical.not_not.mp c_41, trivial⟩))
                  · refine ax_aload_n (i := 0) dX12_reason_94 rfl rfl rfl ?_
                    refine ax_mR hm dX12_reason_95 fl_X12_110 rfl (by decide) ?_
                    refine ax_iload dX12_reason_98 rfl ?_
                    refine ax_mZN (N := 300) hm dX12_reason_100 rfl rfl (by decide) (by omega) ?_
                    refine ax_if_eq (tgt := 124) dX12_reason_101 (by decide) (fun c_101 => ?_) (fun c_101 => ?_)
                    · refine ax_iconst (v := 0) dX12_reason_124 (by decide) ?_
                      refine ax_istore (lv' := [(4, _), (3, _), (5, _), (6, _), (7, _), (0, _), (1, _), (2, _)]) dX12_reason_125 (by decide) rfl ?_
                      refine ax_iinc (v := _ + 1) (lv' := [(7, _), (4, _), (3, _), (5, _), (6, _), (0, _), (1, _), (2, _)]) dX12_reason_127 rfl rfl (by decide) rfl ?_
                      refine ax_goto (tgt := 14) dX12_reason_130 (by decide) ?_
                      rw [nI_1]
                      exact ax_loc rfl (ih (k + 1) _ _ _ _ (by omega) (h3.one c_70) (h4.zero (Classical.not_not.mp c_91) (fun z => z.2.2.1 c_101)) (FL.new ⟨Classical.not_not.mp c_31, Classical.not_not.mp c_41, Int32.not_le.mp c_59⟩) (FL.new ⟨Classical.not_not.mp c_31, Classical.not_not.mp c_41, trivial⟩))
                    · refine ax_aload_n (i := 0) dX12_reason_104 rfl rfl rfl ?_
                      refine ax_mR hm dX12_reason_105 fl_X12_104 rfl (by decide) ?_
                      refine ax_iload dX12_reason_108 rfl ?_
                      refine ax_mIN (N := 300) hm dX12_reason_110 rfl rfl (by decide) (by omega) ?_
                      refine ax_iload_n (i := 2) dX12_reason_111 rfl rfl ?_
                      refine ax_aload_n (i := 0) dX12_reason_112 rfl rfl rfl ?_
                      refine ax_mS dX12_reason_113 fl_X12_126 rfl ?_
                      refine ax_isub dX12_reason_116 ?_
                      refine ax_icmp_gt (tgt := 124) dX12_reason_117 (by decide) (fun c_117 => ?_) (fun c_117 => ?_)
                      · refine ax_iconst (v := 0) dX12_reason_124 (by decide) ?_
                        refine ax_istore (lv' := [(4, _), (3, _), (5, _), (6, _), (7, _), (0, _), (1, _), (2, _)]) dX12_reason_125 (by decide) rfl ?_
                        refine ax_iinc (v := _ + 1) (lv' := [(7, _), (4, _), (3, _), (5, _), (6, _), (0, _), (1, _), (2, _)]) dX12_reason_127 rfl rfl (by decide) rfl ?_
                        refine ax_goto (tgt := 14) dX12_reason_130 (by decide) ?_
                        rw [nI_1]
                        exact ax_loc rfl (ih (k + 1) _ _ _ _ (by omega) (h3.one c_70) (h4.zero (Classical.not_not.mp c_91) (fun z => absurd c_117 (Int32.not_lt.mpr z.2.2.2))) (FL.new ⟨Classical.not_not.mp c_31, Classical.not_not.mp c_41, Int32.not_le.mp c_59⟩) (FL.new ⟨Classical.not_not.mp c_31, Classical.not_not.mp c_41, trivial⟩))
                      · refine ax_iconst (v := 1) dX12_reason_120 (by decide) ?_
                        refine ax_goto (tgt := 125) dX12_reason_121 (by decide) ?_
                        refine ax_istore (lv' := [(4, _), (3, _), (5, _), (6, _), (7, _), (0, _), (1, _), (2, _)]) dX12_reason_125 (by decide) rfl ?_
                        refine ax_iinc (v := _ + 1) (lv' := [(7, _), (4, _), (3, _), (5, _), (6, _), (0, _), (1, _), (2, _)]) dX12_reason_127 rfl rfl (by decide) rfl ?_
                        refine ax_goto (tgt := 14) dX12_reason_130 (by decide) ?_
                        rw [nI_1]
                        exact ax_loc rfl (ih (k + 1) _ _ _ _ (by omega) (h3.one c_70) (FL.new ⟨Classical.not_not.mp c_31, Classical.not_not.mp c_41, c_101, Int32.not_lt.mp c_117⟩) (FL.new ⟨Classical.not_not.mp c_31, Classical.not_not.mp c_41, Int32.not_le.mp c_59⟩) (FL.new ⟨Classical.not_not.mp c_31, Classical.not_not.mp c_41, trivial⟩))
                · refine ax_aload_n (i := 0) dX12_reason_73 rfl rfl rfl ?_
                  refine ax_mR hm dX12_reason_74 fl_X12_110 rfl (by decide) ?_
                  refine ax_iload dX12_reason_77 rfl ?_
                  refine ax_mZN (N := 300) hm dX12_reason_79 rfl rfl (by decide) (by omega) ?_
                  refine ax_if_eq (tgt := 87) dX12_reason_80 (by decide) (fun c_80 => ?_) (fun c_80 => ?_)
                  · refine ax_iconst (v := 0) dX12_reason_87 (by decide) ?_
                    refine ax_istore_n (i := 3) (lv' := [(3, _), (5, _), (6, _), (7, _), (4, _), (0, _), (1, _), (2, _)]) dX12_reason_88 rfl (by decide) rfl ?_
                    refine ax_iload dX12_reason_89 rfl ?_
                    refine ax_if_ne (tgt := 120) dX12_reason_91 (by decide) (fun c_91 => ?_) (fun c_91 => ?_)
                    · refine ax_iconst (v := 1) dX12_reason_120 (by decide) ?_
                      refine ax_goto (tgt := 125) dX12_reason_121 (by decide) ?_
                      refine ax_istore (lv' := [(4, _), (3, _), (5, _), (6, _), (7, _), (0, _), (1, _), (2, _)]) dX12_reason_125 (by decide) rfl ?_
                      refine ax_iinc (v := _ + 1) (lv' := [(7, _), (4, _), (3, _), (5, _), (6, _), (0, _), (1, _), (2, _)]) dX12_reason_127 rfl rfl (by decide) rfl ?_
                      refine ax_goto (tgt := 14) dX12_reason_130 (by decide) ?_
                      rw [nI_1]
                      exact ax_loc rfl (ih (k + 1) _ _ _ _ (by omega) (h3.zero (Classical.not_not.mp c_70) (fun z => z.2.2 c_80)) (h4.one c_91) (FL.new ⟨Classical.not_not.mp c_31, Classical.not_not.mp c_41, Int32.not_le.mp c_59⟩) (FL.new ⟨Classical.not_not.mp c_31, Classical.not_not.mp c_41, trivial⟩))
                    · refine ax_aload_n (i := 0) dX12_reason_94 rfl rfl rfl ?_
                      refine ax_mR hm dX12_reason_95 fl_X12_110 rfl (by decide) ?_
                      refine ax_iload dX12_reason_98 rfl ?_
                      refine ax_mZN (N := 300) hm dX12_reason_100 rfl rfl (by decide) (by omega) ?_
                      refine ax_if_eq (tgt := 124) dX12_reason_101 (by decide) (fun c_101 => ?_) (fun c_101 => ?_)
                      · refine ax_iconst (v := 0) dX12_reason_124 (by decide) ?_
                        refine ax_istore (lv' := [(4, _), (3, _), (5, _), (6, _), (7, _), (0, _), (1, _), (2, _)]) dX12_reason_125 (by decide) rfl ?_
                        refine ax_iinc (v := _ + 1) (lv' := [(7, _), (4, _), (3, _), (5, _), (6, _), (0, _), (1, _), (2, _)]) dX12_reason_127 rfl rfl (by decide) rfl ?_
                        refine ax_goto (tgt := 14) dX12_reason_130 (by decide) ?_
                        rw [nI_1]
                        exact ax_loc rfl (ih (k + 1) _ _ _ _ (by omega) (h3.zero (Classical.not_not.mp c_70) (fun z => z.2.2 c_80)) (h4.zero (Classical.not_not.mp c_91) (fun z => z.2.2.1 c_101)) (FL.new ⟨Classical.not_not.mp c_31, Classical.not_not.mp c_41, Int32.not_le.mp c_59⟩) (FL.new ⟨Classical.not_not.mp c_31, Classical.not_not.mp c_41, trivial⟩))
                      · refine ax_aload_n (i := 0) dX12_reason_104 rfl rfl rfl ?_
                        refine ax_mR hm dX12_reason_105 fl_X12_104 rfl (by decide) ?_
                        refine ax_iload dX12_reason_108 rfl ?_
                        refine ax_mIN (N := 300) hm dX12_reason_110 rfl rfl (by decide) (by omega) ?_
                        refine ax_iload_n (i := 2) dX12_reason_111 rfl rfl ?_
                        refine ax_aload_n (i := 0) dX12_reason_112 rfl rfl rfl ?_
                        refine ax_mS dX12_reason_113 fl_X12_126 rfl ?_
                        refine ax_isub dX12_reason_116 ?_
                        refine ax_icmp_gt (tgt := 124) dX12_reason_117 (by decide) (fun c_117 => ?_) (fun c_117 => ?_)
                        · refine ax_iconst (v := 0) dX12_reason_124 (by decide) ?_
                          refine ax_istore (lv' := [(4, _), (3, _), (5, _), (6, _), (7, _), (0, _), (1, _), (2, _)]) dX12_reason_125 (by decide) rfl ?_
                          refine ax_iinc (v := _ + 1) (lv' := [(7, _), (4, _), (3, _), (5, _), (6, _), (0, _), (1, _), (2, _)]) dX12_reason_127 rfl rfl (by decide) rfl ?_
                          refine ax_goto (tgt := 14) dX12_reason_130 (by decide) ?_
                          rw [nI_1]
                          exact ax_loc rfl (ih (k + 1) _ _ _ _ (by omega) (h3.zero (Classical.not_not.mp c_70) (fun z => z.2.2 c_80)) (h4.zero (Classical.not_not.mp c_91) (fun z => absurd c_117 (Int32.not_lt.mpr z.2.2.2))) (FL.new ⟨Classical.not_not.mp c_31, Classical.not_not.mp c_41, Int32.not_le.mp c_59⟩) (FL.new ⟨Classical.not_not.mp c_31, Classical.not_not.mp c_41, trivial⟩))
                        · refine ax_iconst (v := 1) dX12_reason_120 (by decide) ?_
                          refine ax_goto (tgt := 125) dX12_reason_121 (by decide) ?_
                          refine ax_istore (lv' := [(4, _), (3, _), (5, _), (6, _), (7, _), (0, _), (1, _), (2, _)]) dX12_reason_125 (by decide) rfl ?_
                          refine ax_iinc (v := _ + 1) (lv' := [(7, _), (4, _), (3, _), (5, _), (6, _), (0, _), (1, _), (2, _)]) dX12_reason_127 rfl rfl (by decide) rfl ?_
                          refine ax_goto (tgt := 14) dX12_reason_130 (by decide) ?_
                          rw [nI_1]
                          exact ax_loc rfl (ih (k + 1) _ _ _ _ (by omega) (h3.zero (Classical.not_not.mp c_70) (fun z => z.2.2 c_80)) (FL.new ⟨Classical.not_not.mp c_31, Classical.not_not.mp c_41, c_101, Int32.not_lt.mp c_117⟩) (FL.new ⟨Classical.not_not.mp c_31, Classical.not_not.mp c_41, Int32.not_le.mp c_59⟩) (FL.new ⟨Classical.not_not.mp c_31, Classical.not_not.mp c_41, trivial⟩))
                  · refine ax_iconst (v := 1) dX12_reason_83 (by decide) ?_
                    refine ax_goto (tgt := 88) dX12_reason_84 (by decide) ?_
                    refine ax_istore_n (i := 3) (lv' := [(3, _), (5, _), (6, _), (7, _), (4, _), (0, _), (1, _), (2, _)]) dX12_reason_88 rfl (by decide) rfl ?_
                    refine ax_iload dX12_reason_89 rfl ?_
                    refine ax_if_ne (tgt := 120) dX12_reason_91 (by decide) (fun c_91 => ?_) (fun c_91 => ?_)
                    · refine ax_iconst (v := 1) dX12_reason_120 (by decide) ?_
                      refine ax_goto (tgt := 125) dX12_reason_121 (by decide) ?_
                      refine ax_istore (lv' := [(4, _), (3, _), (5, _), (6, _), (7, _), (0, _), (1, _), (2, _)]) dX12_reason_125 (by decide) rfl ?_
                      refine ax_iinc (v := _ + 1) (lv' := [(7, _), (4, _), (3, _), (5, _), (6, _), (0, _), (1, _), (2, _)]) dX12_reason_127 rfl rfl (by decide) rfl ?_
                      refine ax_goto (tgt := 14) dX12_reason_130 (by decide) ?_
                      rw [nI_1]
                      exact ax_loc rfl (ih (k + 1) _ _ _ _ (by omega) (FL.new ⟨Classical.not_not.mp c_31, Classical.not_not.mp c_41, c_80⟩) (h4.one c_91) (FL.new ⟨Classical.not_not.mp c_31, Classical.not_not.mp c_41, Int32.not_le.mp c_59⟩) (FL.new ⟨Classical.not_not.mp c_31, Classical.not_not.mp c_41, trivial⟩))
                    · refine ax_aload_n (i := 0) dX12_reason_94 rfl rfl rfl ?_
                      refine ax_mR hm dX12_reason_95 fl_X12_110 rfl (by decide) ?_
                      refine ax_iload dX12_reason_98 rfl ?_
                      refine ax_mZN (N := 300) hm dX12_reason_100 rfl rfl (by decide) (by omega) ?_
                      refine ax_if_eq (tgt := 124) dX12_reason_101 (by decide) (fun c_101 => ?_) (fun c_101 => ?_)
                      · refine ax_iconst (v := 0) dX12_reason_124 (by decide) ?_
                        refine ax_istore (lv' := [(4, _), (3, _), (5, _), (6, _), (7, _), (0, _), (1, _), (2, _)]) dX12_reason_125 (by decide) rfl ?_
                        refine ax_iinc (v := _ + 1) (lv' := [(7, _), (4, _), (3, _), (5, _), (6, _), (0, _), (1, _), (2, _)]) dX12_reason_127 rfl rfl (by decide) rfl ?_
                        refine ax_goto (tgt := 14) dX12_reason_130 (by decide) ?_
                        rw [nI_1]
                        exact ax_loc rfl (ih (k + 1) _ _ _ _ (by omega) (FL.new ⟨Classical.not_not.mp c_31, Classical.not_not.mp c_41, c_80⟩) (h4.zero (Classical.not_not.mp c_91) (fun z => z.2.2.1 c_101)) (FL.new ⟨Classical.not_not.mp c_31, Classical.not_not.mp c_41, Int32.not_le.mp c_59⟩) (FL.new ⟨Classical.not_not.mp c_31, Classical.not_not.mp c_41, trivial⟩))
                      · refine ax_aload_n (i := 0) dX12_reason_104 rfl rfl rfl ?_
                        refine ax_mR hm dX12_reason_105 fl_X12_104 rfl (by decide) ?_
                        refine ax_iload dX12_reason_108 rfl ?_
                        refine ax_mIN (N := 300) hm dX12_reason_110 rfl rfl (by decide) (by omega) ?_
                        refine ax_iload_n (i := 2) dX12_reason_111 rfl rfl ?_
                        refine ax_aload_n (i := 0) dX12_reason_112 rfl rfl rfl ?_
                        refine ax_mS dX12_reason_113 fl_X12_126 rfl ?_
                        refine ax_isub dX12_reason_116 ?_
                        refine ax_icmp_gt (tgt := 124) dX12_reason_117 (by decide) (fun c_117 => ?_) (fun c_117 => ?_)
                        · refine ax_iconst (v := 0) dX12_reason_124 (by decide) ?_
                          refine ax_istore (lv' := [(4, _), (3, _), (5, _), (6, _), (7, _), (0, _), (1, _), (2, _)]) dX12_reason_125 (by decide) rfl ?_
                          refine ax_iinc (v := _ + 1) (lv' := [(7, _), (4, _), (3, _), (5, _), (6, _), (0, _), (1, _), (2, _)]) dX12_reason_127 rfl rfl (by decide) rfl ?_
                          refine ax_goto (tgt := 14) dX12_reason_130 (by decide) ?_
                          rw [nI_1]
                          exact ax_loc rfl (ih (k + 1) _ _ _ _ (by omega) (FL.new ⟨Classical.not_not.mp c_31, Classical.not_not.mp c_41, c_80⟩) (h4.zero (Classical.not_not.mp c_91) (fun z => absurd c_117 (Int32.not_lt.mpr z.2.2.2))) (FL.new ⟨Classical.not_not.mp c_31, Classical.not_not.mp c_41, Int32.not_le.mp c_59⟩) (FL.new ⟨Classical.not_not.mp c_31, Classical.not_not.mp c_41, trivial⟩))
                        · refine ax_iconst (v := 1) dX12_reason_120 (by decide) ?_
                          refine ax_goto (tgt := 125) dX12_reason_121 (by decide) ?_
                          refine ax_istore (lv' := [(4, _), (3, _), (5, _), (6, _), (7, _), (0, _), (1, _), (2, _)]) dX12_reason_125 (by decide) rfl ?_
                          refine ax_iinc (v := _ + 1) (lv' := [(7, _), (4, _), (3, _), (5, _), (6, _), (0, _), (1, _), (2, _)]) dX12_reason_127 rfl rfl (by decide) rfl ?_
                          refine ax_goto (tgt := 14) dX12_reason_130 (by decide) ?_
                          rw [nI_1]
                          exact ax_loc rfl (ih (k + 1) _ _ _ _ (by omega) (FL.new ⟨Classical.not_not.mp c_31, Classical.not_not.mp c_41, c_80⟩) (FL.new ⟨Classical.not_not.mp c_31, Classical.not_not.mp c_41, c_101, Int32.not_lt.mp c_117⟩) (FL.new ⟨Classical.not_not.mp c_31, Classical.not_not.mp c_41, Int32.not_le.mp c_59⟩) (FL.new ⟨Classical.not_not.mp c_31, Classical.not_not.mp c_41, trivial⟩))
  refine ax_iconst (v := 0) dX12_reason_0 (by decide) ?_
  refine ax_istore_n (i := 3) (lv' := [(3, _), (0, _), (1, _), (2, _)]) dX12_reason_1 rfl (by decide) rfl ?_
  refine ax_iconst (v := 0) dX12_reason_2 (by decide) ?_
  refine ax_istore (lv' := [(4, _), (3, _), (0, _), (1, _), (2, _)]) dX12_reason_3 (by decide) rfl ?_
  refine ax_iconst (v := 0) dX12_reason_5 (by decide) ?_
  refine ax_istore (lv' := [(5, _), (4, _), (3, _), (0, _), (1, _), (2, _)]) dX12_reason_6 (by decide) rfl ?_
  refine ax_iconst (v := 0) dX12_reason_8 (by decide) ?_
  refine ax_istore (lv' := [(6, _), (5, _), (4, _), (3, _), (0, _), (1, _), (2, _)]) dX12_reason_9 (by decide) rfl ?_
  refine ax_iconst (v := nI 0) dX12_reason_11 (by decide) ?_
  refine ax_istore (lv' := [(7, _), (6, _), (5, _), (4, _), (3, _), (0, _), (1, _), (2, _)]) dX12_reason_12 (by decide) rfl ?_
  exact ax_loc rfl (L (mN M 30) 0 _ _ _ _ (by omega) (FL.z _) (FL.z _) (FL.z _) (FL.z _))
set_option maxHeartbeats 4000000 in
set_option maxRecDepth 100000 in
theorem t_write {b : Bool} {E : awE} {S : awS} {M : aM} {Q : Option Value → awS → Nat → Nat → Prop} (hm : mOk S) {l x : Nat} (hI : mI M) (hl : l < 200) (hx : x < 300) (h : Q none (putM S (mWrite M l x)) 0 0) : awT b E m_X12_write [.ref (nm 13 0), .int (nI l), .int (nI x)] (putM S M) Q := by
  refine awT.of (by decide) (by decide) (Nat.le_of_ble_eq_true rfl) ?_
  refine ax_aload_n (i := 0) dX12_write_0 rfl rfl rfl ?_
  refine ax_mR hm dX12_write_1 fl_X12_180 rfl (by decide) ?_
  refine ax_iload_n (i := 1) dX12_write_4 rfl rfl ?_
  refine ax_mIN (N := 200) hm dX12_write_5 rfl rfl (by decide) (by omega) ?_
  refine ax_bipush (v := 40) dX12_write_6 (by decide) ?_
  refine ax_icmp_ne (tgt := 12) dX12_write_8 (by decide) (fun c_8 => ?_) (fun c_8 => ?_)
  · have hb0 : mE M 67 l < 40 := by
      have h1 := (hI.A (k := 67) (n := 200) (b := 41) (by decide) hl)
      have h2 : ¬ mE M 67 l = 40 := fun z => c_8 (by rw [h1.1, z]; rfl)
      omega
    have hb : 40 * l + mE M 67 l < 8000 := by omega
    refine ax_aload_n (i := 0) dX12_write_12 rfl rfl rfl ?_
    refine ax_mR hm dX12_write_13 fl_X12_183 rfl (by decide) ?_
    refine ax_bipush (v := nI 40) dX12_write_16 (by decide) ?_
    refine ax_iload_n (i := 1) dX12_write_18 rfl rfl ?_
    refine ax_imulN dX12_write_19 ?_
    refine ax_aload_n (i := 0) dX12_write_20 rfl rfl rfl ?_
    refine ax_mR hm dX12_write_21 fl_X12_180 rfl (by decide) ?_
    refine ax_iload_n (i := 1) dX12_write_24 rfl rfl ?_
    refine ax_mIN (N := 200) hm dX12_write_25 rfl rfl (by decide) (by omega) ?_
    refine ax_top (hI.A (k := 67) (n := 200) (b := 41) (by decide) hl).1 ?_
    refine ax_iaddN dX12_write_26 ?_
    refine ax_iload_n (i := 2) dX12_write_27 rfl rfl ?_
    refine ax_mPIN (N := 8000) hm dX12_write_28 rfl rfl (by decide) hb ?_
    refine ax_aload_n (i := 0) dX12_write_29 rfl rfl rfl ?_
    refine ax_mR hm dX12_write_30 fl_X12_180 rfl (by decide) ?_
    refine ax_iload_n (i := 1) dX12_write_33 rfl rfl ?_
    refine ax_dup2 dX12_write_34 rfl rfl ?_
    refine ax_mIN (N := 200) hm dX12_write_35 rfl rfl (by decide) (by omega) ?_
    refine ax_iconst (v := 1) dX12_write_36 (by decide) ?_
    refine ax_iadd dX12_write_37 ?_
    refine ax_mPIN (N := 200) hm dX12_write_38 rfl rfl (by decide) (by omega) ?_
    refine ax_aload_n (i := 0) dX12_write_39 rfl rfl rfl ?_
    refine ax_mR hm dX12_write_40 fl_X12_107 rfl (by decide) ?_
    refine ax_iload_n (i := 2) dX12_write_43 rfl rfl ?_
    refine ax_dup2 dX12_write_44 rfl rfl ?_
    refine ax_mIN (N := 300) hm dX12_write_45 rfl rfl (by decide) (by omega) ?_
    refine ax_iconst (v := 1) dX12_write_46 (by decide) ?_
    refine ax_iadd dX12_write_47 ?_
    refine ax_mPIN (N := 300) hm dX12_write_48 rfl rfl (by decide) (by omega) ?_
    refine ax_aload_n (i := 0) dX12_write_49 rfl rfl rfl ?_
    refine ax_mR hm dX12_write_50 fl_X12_110 rfl (by decide) ?_
    refine ax_iload_n (i := 2) dX12_write_53 rfl rfl ?_
    refine ax_iconst (v := 0) dX12_write_54 (by decide) ?_
    refine ax_mPZN (N := 300) hm dX12_write_55 rfl rfl (by decide) (by omega) rfl ?_
    refine ax_aload_n (i := 0) dX12_write_56 rfl rfl rfl ?_
    refine ax_mR hm dX12_write_57 fl_X12_95 rfl (by decide) ?_
    refine ax_iload_n (i := 2) dX12_write_60 rfl rfl ?_
    refine ax_mIN (N := 300) hm dX12_write_61 rfl rfl (by decide) (by omega) ?_
    refine ax_if_ne (tgt := 75) dX12_write_62 (by decide) (fun c_62 => ?_) (fun c_62 => ?_)
    · refine ax_aload_n (i := 0) dX12_write_75 rfl rfl rfl ?_
      refine ax_mR hm dX12_write_76 fl_X12_116 rfl (by decide) ?_
      refine ax_iload_n (i := 2) dX12_write_79 rfl rfl ?_
      refine ax_iconst (v := 1) dX12_write_80 (by decide) ?_
      refine ax_mPZN (N := 300) hm dX12_write_81 rfl rfl (by decide) (by omega) rfl ?_
      refine ax_vret dX12_write_82 rfl ?_
      exact fin0 h (by unfold mWrite; rw [if_neg c_8]; exact if_neg c_62)
    · refine ax_aload_n (i := 0) dX12_write_65 rfl rfl rfl ?_
      refine ax_mR hm dX12_write_66 fl_X12_113 rfl (by decide) ?_
      refine ax_iload_n (i := 2) dX12_write_69 rfl rfl ?_
      refine ax_iconst (v := 1) dX12_write_70 (by decide) ?_
      refine ax_mPZN (N := 300) hm dX12_write_71 rfl rfl (by decide) (by omega) rfl ?_
      refine ax_goto (tgt := 82) dX12_write_72 (by decide) ?_
      refine ax_vret dX12_write_82 rfl ?_
      exact fin0 h (by unfold mWrite; rw [if_neg c_8]; exact if_pos (Classical.not_not.mp c_62))
  · refine ax_vret dX12_write_11 rfl ?_
    exact fin0 h (if_pos (Classical.not_not.mp c_8))
theorem mI.upL {M : aM} (h : mI M) (t l : Nat) (hl : l < 200) : mI (mUpL t l M) := by
  unfold mUpL
  split
  · rename_i c
    have ha := h.A (k := 71) (n := 200) (b := 9) (by decide) hl
    have hr := h.A (k := 69) (n := 200) (b := 9) (by decide) hl
    have c2 := c.2.1
    rw [ha.1, hr.1] at c2
    have c3 := (nI_ltI (by omega) (by omega)).mp c2
    have e : mA M 71 l + 1 = nI (mE M 71 l + 1) := by rw [ha.1]; exact nI_1 _
    refine mIx.qF (mIx.qRv (b := 9) h (by decide) ?_ (by decide)) (by decide)
    rw [e]
    unfold nN
    rw [nI_clamp (by omega)]
    exact ⟨rfl, by omega⟩
  · exact h
theorem mS_upL (M : aM) (t l k : Nat) : mS (mUpL t l M) k = mS M k := by
  unfold mUpL
  split <;> rfl
theorem mUp_inv {M : aM} (h : mI M) (t n : Nat) (hn : n ≤ 200) : mI (mIter (mUpL t) n M) ∧ ∀ k, mS (mIter (mUpL t) n M) k = mS M k :=
  mIter_inv (fun N => mI N ∧ ∀ k, mS N k = mS M k) ⟨h, fun _ => rfl⟩ (fun j a hj q => ⟨q.1.upL t j (by omega), fun k => (mS_upL a t j k).trans (q.2 k)⟩)

set_option maxHeartbeats 4000000 in
set_option maxRecDepth 100000 in
theorem t_goUp {b : Bool} {E : awE} {S : awS} {M : aM} {Q : Option Value → awS → Nat → Nat → Prop} (hm : mOk S) {t : Nat} (hI : mI M) (h : Q none (putM S (mUp M t)) 0 0) : awT b E m_X12_goUp [.ref (nm 13 0), .int (nI t)] (putM S M) Q := by
  refine awT.of (by decide) (by decide) (Nat.le_of_ble_eq_true rfl) ?_
  have hlb : mN M 63 ≤ 200 := mS_b hI (by decide)
  have en : ∀ k, k ≤ 200 → mS (mIter (mUpL t) k M) 63 = nI (mN M 63) := fun k hk => ((mUp_inv hI t k hk).2 _).trans (mS_nI hI (b := 200) (by decide))
  have L : ∀ (m k : Nat), k + m = mN M 63 → awX b E m_X12_goUp 2 [(2, .int (nI k)), (0, .ref (nm 13 0)), (1, .int (nI t))] [] (putM S (mIter (mUpL t) k M)) 0 0 Q := by
    intro m
    induction m with
    | zero =>
      intro k hm1 
      refine ax_iload_n (i := 2) dX12_goUp_2 rfl rfl ?_
      refine ax_aload_n (i := 0) dX12_goUp_3 rfl rfl rfl ?_
      refine ax_mS dX12_goUp_4 fl_X12_362 rfl ?_
      refine ax_icmp_ge (tgt := 72) dX12_goUp_7 (by decide) (fun c_7 => ?_) (fun c_7 => ?_)
      · have hk2 : k = mN M 63 := Nat.le_antisymm (by omega) (ge_of_n (en k (by omega)) c_7 (by omega))
        subst hk2
        refine ax_vret dX12_goUp_72 rfl ?_
        exact h
      · exact absurd (lt_of_n (en k (by omega)) c_7 (by omega)) (by omega)
    | succ m ih =>
      intro k hm1 
      refine ax_iload_n (i := 2) dX12_goUp_2 rfl rfl ?_
      refine ax_aload_n (i := 0) dX12_goUp_3 rfl rfl rfl ?_
      refine ax_mS dX12_goUp_4 fl_X12_362 rfl ?_
      refine ax_icmp_ge (tgt := 72) dX12_goUp_7 (by decide) (fun c_7 => ?_) (fun c_7 => ?_)
      · exact absurd (ge_of_n (en k (by omega)) c_7 (by omega)) (by omega)
      · have hk2 : k < mN M 63 := lt_of_n (en k (by omega)) c_7 (by omega)
        have hP := (mUp_inv hI t k (by omega)).1
        generalize hN : mIter (mUpL t) k M = N at hP ⊢
        refine ax_aload_n (i := 0) dX12_goUp_10 rfl rfl rfl ?_
        refine ax_mR hm dX12_goUp_11 fl_X12_198 rfl (by decide) ?_
        refine ax_iload_n (i := 2) dX12_goUp_14 rfl rfl ?_
        refine ax_mIN (N := 200) hm dX12_goUp_15 rfl rfl (by decide) (by omega) ?_
        refine ax_if_ge (tgt := 66) dX12_goUp_16 (by decide) (fun c_16 => ?_) (fun c_16 => ?_)
        · refine ax_iinc (v := _ + 1) (lv' := [(2, _), (0, _), (1, _)]) dX12_goUp_66 rfl rfl (by decide) rfl ?_
          refine ax_mE (M2 := mIter (mUpL t) (k + 1) M) (by rw [show mIter (mUpL t) (k + 1) M = mUpL t k N by rw [← hN]; rfl]; unfold mUpL; rw [if_neg (fun z => absurd c_16 (Int32.not_le.mpr z.1))]) ?_
          refine ax_goto (tgt := 2) dX12_goUp_69 (by decide) ?_
          rw [nI_1]
          exact ax_loc rfl (ih (k + 1) (by omega))
        · refine ax_aload_n (i := 0) dX12_goUp_19 rfl rfl rfl ?_
          refine ax_mR hm dX12_goUp_20 fl_X12_192 rfl (by decide) ?_
          refine ax_iload_n (i := 2) dX12_goUp_23 rfl rfl ?_
          refine ax_mIN (N := 200) hm dX12_goUp_24 rfl rfl (by decide) (by omega) ?_
          refine ax_aload_n (i := 0) dX12_goUp_25 rfl rfl rfl ?_
          refine ax_mR hm dX12_goUp_26 fl_X12_186 rfl (by decide) ?_
          refine ax_iload_n (i := 2) dX12_goUp_29 rfl rfl ?_
          refine ax_mIN (N := 200) hm dX12_goUp_30 rfl rfl (by decide) (by omega) ?_
          refine ax_icmp_ge (tgt := 66) dX12_goUp_31 (by decide) (fun c_31 => ?_) (fun c_31 => ?_)
          · refine ax_iinc (v := _ + 1) (lv' := [(2, _), (0, _), (1, _)]) dX12_goUp_66 rfl rfl (by decide) rfl ?_
            refine ax_mE (M2 := mIter (mUpL t) (k + 1) M) (by rw [show mIter (mUpL t) (k + 1) M = mUpL t k N by rw [← hN]; rfl]; unfold mUpL; rw [if_neg (fun z => absurd c_31 (Int32.not_le.mpr z.2.1))]) ?_
            refine ax_goto (tgt := 2) dX12_goUp_69 (by decide) ?_
            rw [nI_1]
            exact ax_loc rfl (ih (k + 1) (by omega))
          · refine ax_iload_n (i := 1) dX12_goUp_34 rfl rfl ?_
            refine ax_aload_n (i := 0) dX12_goUp_35 rfl rfl rfl ?_
            refine ax_mR hm dX12_goUp_36 fl_X12_195 rfl (by decide) ?_
            refine ax_iload_n (i := 2) dX12_goUp_39 rfl rfl ?_
            refine ax_mIN (N := 200) hm dX12_goUp_40 rfl rfl (by decide) (by omega) ?_
            refine ax_aload_n (i := 0) dX12_goUp_41 rfl rfl rfl ?_
            refine ax_mS dX12_goUp_42 fl_X12_135 rfl ?_
            refine ax_iadd dX12_goUp_45 ?_
            refine ax_icmp_lt (tgt := 66) dX12_goUp_46 (by decide) (fun c_46 => ?_) (fun c_46 => ?_)
            · refine ax_iinc (v := _ + 1) (lv' := [(2, _), (0, _), (1, _)]) dX12_goUp_66 rfl rfl (by decide) rfl ?_
              refine ax_mE (M2 := mIter (mUpL t) (k + 1) M) (by rw [show mIter (mUpL t) (k + 1) M = mUpL t k N by rw [← hN]; rfl]; unfold mUpL; rw [if_neg (fun z => absurd c_46 (Int32.not_lt.mpr z.2.2))]) ?_
              refine ax_goto (tgt := 2) dX12_goUp_69 (by decide) ?_
              rw [nI_1]
              exact ax_loc rfl (ih (k + 1) (by omega))
            · refine ax_aload_n (i := 0) dX12_goUp_49 rfl rfl rfl ?_
              refine ax_mR hm dX12_goUp_50 fl_X12_192 rfl (by decide) ?_
              refine ax_iload_n (i := 2) dX12_goUp_53 rfl rfl ?_
              refine ax_dup2 dX12_goUp_54 rfl rfl ?_
              refine ax_mIN (N := 200) hm dX12_goUp_55 rfl rfl (by decide) (by omega) ?_
              refine ax_iconst (v := 1) dX12_goUp_56 (by decide) ?_
              refine ax_iadd dX12_goUp_57 ?_
              refine ax_mPIN (N := 200) hm dX12_goUp_58 rfl rfl (by decide) (by omega) ?_
              refine ax_aload_n (i := 0) dX12_goUp_59 rfl rfl rfl ?_
              refine ax_mR hm dX12_goUp_60 fl_X12_195 rfl (by decide) ?_
              refine ax_iload_n (i := 2) dX12_goUp_63 rfl rfl ?_
              refine ax_iload_n (i := 1) dX12_goUp_64 rfl rfl ?_
              refine ax_mPIN (N := 200) hm dX12_goUp_65 rfl rfl (by decide) (by omega) ?_
              refine ax_iinc (v := _ + 1) (lv' := [(2, _), (0, _), (1, _)]) dX12_goUp_66 rfl rfl (by decide) rfl ?_
              refine ax_mE (M2 := mIter (mUpL t) (k + 1) M) (by rw [show mIter (mUpL t) (k + 1) M = mUpL t k N by rw [← hN]; rfl]; unfold mUpL; rw [if_pos ⟨Int32.not_le.mp c_16, Int32.not_le.mp c_31, Int32.not_lt.mp c_46⟩]) ?_
              refine ax_goto (tgt := 2) dX12_goUp_69 (by decide) ?_
              rw [nI_1]
              exact ax_loc rfl (ih (k + 1) (by omega))
  refine ax_iconst (v := nI 0) dX12_goUp_0 (by decide) ?_
  refine ax_istore_n (i := 2) (lv' := [(2, _), (0, _), (1, _)]) dX12_goUp_1 rfl (by decide) rfl ?_
  exact ax_loc rfl (L (mN M 63) 0 (by omega))
