theorem mCntP_le {p q : Nat → Prop} : ∀ {n : Nat}, (∀ x, x < n → p x → q x) → mCntP p n ≤ mCntP q n
  | 0, _ => Nat.le_refl 0
  | n + 1, h => by
    show mCntP p n + iC (p n) 1 0 ≤ mCntP q n + iC (q n) 1 0
    have h1 : mCntP p n ≤ mCntP q n := mCntP_le (fun x hx => h x (by omega))
    by_cases c : p n
    · rw [iC_t c, iC_t (h n (by omega) c)]; omega
    · rw [iC_f c]; omega
theorem mCntP_n {p : Nat → Prop} : ∀ {n : Nat}, mCntP p n ≤ n
  | 0 => Nat.le_refl 0
  | n + 1 => by
    show mCntP p n + iC (p n) 1 0 ≤ n + 1
    have h1 : mCntP p n ≤ n := mCntP_n
    have h2 := iC_le (p n)
    omega
theorem mCntP_lt {p q : Nat → Prop} {y : Nat} : ∀ {n : Nat}, (∀ x, x < n → p x → q x) → y < n → q y → ¬ p y → mCntP p n + 1 ≤ mCntP q n
  | 0, _, hy, _, _ => absurd hy (Nat.not_lt_zero y)
  | n + 1, h, hy, hq, hp => by
    show mCntP p n + iC (p n) 1 0 + 1 ≤ mCntP q n + iC (q n) 1 0
    by_cases e : y = n
    · subst e
      have h1 : mCntP p y ≤ mCntP q y := mCntP_le (fun x hx => h x (by omega))
      rw [iC_f hp, iC_t hq]; omega
    · have h1 : mCntP p n + 1 ≤ mCntP q n := mCntP_lt (fun x hx => h x (by omega)) (by omega) hq hp
      by_cases c : p n
      · rw [iC_t c, iC_t (h n (by omega) c)]; omega
      · rw [iC_f c]; omega
theorem mStep_congr {N M : aM} (h : ∀ k j, ¬ k = 77 → mA N k j = mA M k j) (hd t : Nat) : ∀ n, mStep N hd t n = mStep M hd t n
  | 0 => rfl
  | n + 1 => by
    have e1 := mStep_congr h hd t n
    have e2 : mInK N hd t n = mInK M hd t n := by
      unfold mInK mE
      rw [h 54 n (by decide), h 76 hd (by decide), h 55 n (by decide), h 56 n (by decide)]
    show iC (mInK N hd t n ∧ mA N 57 n < mStep N hd t n) (mA N 57 n) (mStep N hd t n) = iC (mInK M hd t n ∧ mA M 57 n < mStep M hd t n) (mA M 57 n) (mStep M hd t n)
    rw [e1, e2, h 57 n (by decide)]
/-- the hands that may still be written as awake, from step st and hand hd on -/
def wkP (M : aM) (t st hd x : Nat) : Prop := nI st < mStep M x t (mN M 53) ∨ (mStep M x t (mN M 53) = nI st ∧ hd ≤ x)
def wkI (M N : aM) (t st hd : Nat) : Prop := mI N ∧ (∀ k, ¬ k = 78 → mS N k = mS M k) ∧ (∀ k j, ¬ k = 77 → mA N k j = mA M k j) ∧ mS N 78 = nI (mN N 78) ∧ mN N 78 + mCntP (wkP M t st hd) (mN M 52) ≤ 8
theorem wkI.lt {M N : aM} {t st hd : Nat} (h : wkI M N t st hd) (hh : hd < mN M 52) (hs : mStep N hd t (mN N 53) = nI st) : mN N 78 < 8 := by
  have e : mN N 53 = mN M 53 := by unfold mN; rw [h.2.1 _ (by decide)]
  rw [e, mStep_congr h.2.2.1] at hs
  have h1 := mCntP_lt (p := fun _ => False) (q := wkP M t st hd) (y := hd) (n := mN M 52) (fun _ _ z => z.elim) hh (Or.inr ⟨hs, Nat.le_refl hd⟩) (fun z => z)
  have h2 := h.2.2.2.2
  omega
theorem wkI.step {M N : aM} {t st hd : Nat} (h : wkI M N t st hd) (hh : hd < mN M 52) (h8 : mN M 52 ≤ 8) : wkI M (mWakeH t st hd N) t st (hd + 1) := by
  have e : mN N 53 = mN M 53 := by unfold mN; rw [h.2.1 _ (by decide)]
  have hle : ∀ x, wkP M t st (hd + 1) x → wkP M t st hd x := fun x z => z.elim Or.inl (fun w => Or.inr ⟨w.1, by have := w.2; omega⟩)
  unfold mWakeH
  by_cases c : mStep N hd t (mN N 53) = nI st
  · have hlt := h.lt hh c
    rw [if_pos c]
    have c2 := c
    rw [e, mStep_congr h.2.2.1] at c2
    have h1 := mCntP_lt (p := wkP M t st (hd + 1)) (q := wkP M t st hd) (y := hd) (n := mN M 52) (fun x _ z => hle x z) hh (Or.inr ⟨c2, Nat.le_refl hd⟩) (fun z => z.elim (fun w => by rw [c2] at w; exact Int32.lt_irrefl w) (fun w => absurd w.2 (by omega)))
    have en : mS N 78 + 1 = nI (mN N 78 + 1) := by rw [h.2.2.2.1]; exact nI_1 _
    have em : mN (pS (pA N 77 (mN N 78) (nI hd)) 78 (mS N 78 + 1)) 78 = mN N 78 + 1 := by
      show (mS N 78 + 1).toNatClampNeg = _
      rw [en]; exact nI_clamp (by omega)
    refine ⟨(h.1.qR (b := 8) (by decide) (by omega) (by decide)).qSF (by decide), fun k hk => ?_, fun k j hk => ?_, ?_, ?_⟩
    · rw [mS_pS, if_neg hk]; exact h.2.1 k hk
    · rw [mA_pS, mA_pA, if_neg (fun z => hk z.1)]; exact h.2.2.1 k j hk
    · rw [em, mS_pS, if_pos rfl, en]
    · rw [em]; have := h.2.2.2.2; omega
  · rw [if_neg c]
    refine ⟨h.1, h.2.1, h.2.2.1, h.2.2.2.1, ?_⟩
    have h1 : mCntP (wkP M t st (hd + 1)) (mN M 52) ≤ mCntP (wkP M t st hd) (mN M 52) := mCntP_le (fun x _ z => hle x z)
    have := h.2.2.2.2
    omega
theorem wkI.next {M N : aM} {t st hd : Nat} (h : wkI M N t st hd) (hs : st < 10) : wkI M N t (st + 1) 0 := by
  refine ⟨h.1, h.2.1, h.2.2.1, h.2.2.2.1, ?_⟩
  have h1 : mCntP (wkP M t (st + 1) 0) (mN M 52) ≤ mCntP (wkP M t st hd) (mN M 52) := mCntP_le (fun x _ z => Or.inl (z.elim (fun w => Int32.lt_trans (nI_lt (by omega) (by omega)) w) (fun w => by rw [w.1]; exact nI_lt (by omega) (by omega))))
  have := h.2.2.2.2
  omega
theorem wkI.inner {M N : aM} {t st : Nat} (h : wkI M N t st 0) (h8 : mN M 52 ≤ 8) : ∀ n, n ≤ mN M 52 → wkI M (mIter (fun hd N => mWakeH t st hd N) n N) t st n
  | 0, _ => h
  | n + 1, hn => (wkI.inner h h8 n (by omega)).step (by omega) h8
theorem wkI.outer {M N : aM} {t : Nat} (h : wkI M N t 0 0) (h8 : mN M 52 ≤ 8) : ∀ n, n ≤ 10 → wkI M (mIter (fun st M => mIter (fun h M => mWakeH t st h M) (mN M 52) M) n N) t n 0
  | 0, _ => h
  | n + 1, hn => by
    have h1 := wkI.outer h h8 n (by omega)
    have e : mN (mIter (fun st M => mIter (fun h M => mWakeH t st h M) (mN M 52) M) n N) 52 = mN M 52 := congrArg Int32.toNatClampNeg (h1.2.1 52 (by decide))
    show wkI M (mIter (fun h M => mWakeH t n h M) (mN (mIter (fun st M => mIter (fun h M => mWakeH t st h M) (mN M 52) M) n N) 52) (mIter (fun st M => mIter (fun h M => mWakeH t st h M) (mN M 52) M) n N)) t (n + 1) 0
    rw [e]
    exact (h1.inner h8 _ (Nat.le_refl _)).next (by omega)
theorem wkI.start {M : aM} (h : mI M) (t : Nat) : wkI (mPlace M t) (pS (mPlace M t) 78 0) t 0 0 := by
  have hp := mPlace_inv h t
  refine ⟨hp.1.qSF (by decide), fun k hk => by rw [mS_pS, if_neg hk], fun k j _ => rfl, rfl, ?_⟩
  have h1 : mCntP (wkP (mPlace M t) t 0 0) (mN (mPlace M t) 52) ≤ mN (mPlace M t) 52 := mCntP_n
  have h2 : mN (mPlace M t) 52 ≤ 8 := mS_b hp.1 (by decide)
  have h3 : mN (pS (mPlace M t) 78 0) 78 = 0 := rfl
  omega
theorem mWake_inv {M : aM} (h : mI M) (t : Nat) : wkI (mPlace M t) (mWake M t) t 10 0 := (wkI.start h t).outer (mS_b (mPlace_inv h t).1 (by decide)) 10 (Nat.le_refl 10)

set_option maxHeartbeats 4000000 in
set_option maxRecDepth 100000 in
theorem t_wake {b : Bool} {E : awE} {S : awS} {M : aM} {Q : Option Value → awS → Nat → Nat → Prop} (hm : mOk S) {t : Nat} (hI : mI M) (ht : t < 2 ^ 20) (h : Q none (putM S (mWake M t)) 0 0) : awT b E m_X12_wake [.ref (nm 13 0), .int (nI t)] (putM S M) Q := by
  refine awT.of (by decide) (by decide) (Nat.le_of_ble_eq_true rfl) ?_
  have h8 : mN (mPlace M t) 52 ≤ 8 := mS_b (mPlace_inv hI t).1 (by decide)
  have h : Q none (putM S (mIter (fun st M => mIter (fun h M => mWakeH t st h M) (mN M 52) M) 10 (pS (mPlace M t) 78 0))) 0 0 := h
  have L : ∀ (m st : Nat), st + m = 10 → awX b E m_X12_wake 12 [(2, .int (nI st)), (0, .ref (nm 13 0)), (1, .int (nI t))] [] (putM S (mIter (fun st M => mIter (fun h M => mWakeH t st h M) (mN M 52) M) st (pS (mPlace M t) 78 0))) 0 0 Q := by
    generalize hM1 : pS (mPlace M t) 78 0 = M1 at h ⊢
    have L : ∀ (m st : Nat), st + m = 10 → awX b E m_X12_wake 12 [(2, .int (nI st)), (0, .ref (nm 13 0)), (1, .int (nI t))] [] (putM S (mIter (fun st M => mIter (fun h M => mWakeH t st h M) (mN M 52) M) st M1)) 0 0 Q := by
      intro m
      induction m with
      | zero =>
        intro st hm1 
        refine ax_iload_n (i := 2) dX12_wake_12 rfl rfl ?_
        refine ax_bipush (v := 10) dX12_wake_13 (by decide) ?_
        refine ax_icmp_ge (tgt := 70) dX12_wake_15 (by decide) (fun c_15 => ?_) (fun c_15 => ?_)
        · have hst2 : st = 10 := Nat.le_antisymm (by omega) (ge_of_c (b := 10) rfl c_15 (by decide))
          subst hst2
          refine ax_vret dX12_wake_70 rfl ?_
          exact h
        · exact absurd (lt_of_c (b := 10) rfl c_15 (by omega)) (by omega)
      | succ m ih =>
        intro st hm1 
        refine ax_iload_n (i := 2) dX12_wake_12 rfl rfl ?_
        refine ax_bipush (v := 10) dX12_wake_13 (by decide) ?_
        refine ax_icmp_ge (tgt := 70) dX12_wake_15 (by decide) (fun c_15 => ?_) (fun c_15 => ?_)
        · exact absurd (ge_of_c (b := 10) rfl c_15 (by decide)) (by omega)
        · have hst2 : st < 10 := lt_of_c (b := 10) rfl c_15 (by omega)
          have hN1 := (wkI.start hI t).outer h8 st (by omega)
          have NX : awX b E m_X12_wake 64 [(2, .int (nI st)), (0, .ref (nm 13 0)), (1, .int (nI t))] [] (putM S (mIter (fun st M => mIter (fun h M => mWakeH t st h M) (mN M 52) M) (st + 1) M1)) 0 0 Q := by
            refine ax_iinc (v := _ + 1) (lv' := [(2, _), (0, .ref (nm 13 0)), (1, _)]) dX12_wake_64 rfl rfl (by decide) rfl ?_
            refine ax_goto (tgt := 12) dX12_wake_67 (by decide) ?_
            rw [nI_1]
            exact ax_loc rfl (ih (st + 1) (by omega))
          have NX : awX b E m_X12_wake 64 [(2, .int (nI st)), (0, .ref (nm 13 0)), (1, .int (nI t))] [] (putM S (mIter (fun h M => mWakeH t st h M) (mN (mIter (fun st M => mIter (fun h M => mWakeH t st h M) (mN M 52) M) st M1) 52) (mIter (fun st M => mIter (fun h M => mWakeH t st h M) (mN M 52) M) st M1))) 0 0 Q := NX
          rw [hM1] at hN1
          generalize hN : mIter (fun st M => mIter (fun h M => mWakeH t st h M) (mN M 52) M) st M1 = N at hN1 NX ⊢
          have e8 : mN N 52 = mN (mPlace M t) 52 := by unfold mN; rw [hN1.2.1 _ (by decide)]
          have hI2 : ∀ k, k ≤ mN N 52 → wkI (mPlace M t) (mIter (fun h M => mWakeH t st h M) k N) t st k := fun k hk => hN1.inner h8 k (by omega)
          have en : ∀ k, k ≤ mN N 52 → mS (mIter (fun h M => mWakeH t st h M) k N) 52 = nI (mN N 52) := fun k hk => by rw [(hI2 k hk).2.1 _ (by decide), e8]; exact mS_nI (mPlace_inv hI t).1 (b := 8) (by decide)
          have IN : ∀ (m k : Nat), k + m = mN N 52 → awX b E m_X12_wake 20 [(3, .int (nI k)), (2, .int (nI st)), (0, .ref (nm 13 0)), (1, .int (nI t))] [] (putM S (mIter (fun h M => mWakeH t st h M) k N)) 0 0 Q := by
            intro m
            induction m with
            | zero =>
              intro k hm1 
              refine ax_iload_n (i := 3) dX12_wake_20 rfl rfl ?_
              refine ax_aload_n (i := 0) dX12_wake_21 rfl rfl rfl ?_
              refine ax_mS dX12_wake_22 fl_X12_237 rfl ?_
              refine ax_icmp_ge (tgt := 64) dX12_wake_25 (by decide) (fun c_25 => ?_) (fun c_25 => ?_)
              · have hk2 : k = mN N 52 := Nat.le_antisymm (by omega) (ge_of_n (en k (by omega)) c_25 (by omega))
                subst hk2
                exact ax_loc rfl NX
              · exact absurd (lt_of_n (en k (by omega)) c_25 (by omega)) (by omega)
            | succ m ih =>
              intro k hm1 
              refine ax_iload_n (i := 3) dX12_wake_20 rfl rfl ?_
              refine ax_aload_n (i := 0) dX12_wake_21 rfl rfl rfl ?_
              refine ax_mS dX12_wake_22 fl_X12_237 rfl ?_
              refine ax_icmp_ge (tgt := 64) dX12_wake_25 (by decide) (fun c_25 => ?_) (fun c_25 => ?_)
              · exact absurd (ge_of_n (en k (by omega)) c_25 (by omega)) (by omega)
              · have hk2 : k < mN N 52 := lt_of_n (en k (by omega)) c_25 (by omega)
                have hP := hI2 k (by omega)
                generalize hNP : mIter (fun h M => mWakeH t st h M) k N = P at hP ⊢
                refine ax_aload_n (i := 0) dX12_wake_28 rfl rfl rfl ?_
                refine ax_iload_n (i := 3) dX12_wake_29 rfl rfl ?_
                refine ax_iload_n (i := 1) dX12_wake_30 rfl rfl ?_
                refine ax_invV (c := 13) (n := 2) (As := [_, _]) dX12_wake_31 cb_X12_stepOf cv_X12_359.1 cv_X12_359.2.1 cv_X12_359.2.2 rfl (by decide) rfl ⟨Nat.le_of_ble_eq_true rfl, Nat.le_of_ble_eq_true rfl⟩ (Nat.le_of_ble_eq_true rfl) rfl (t_stepOf hm hP.1 (by omega) ht ?_)
                refine ax_iload_n (i := 2) dX12_wake_34 rfl rfl ?_
                refine ax_icmp_ne (tgt := 58) dX12_wake_35 (by decide) (fun c_35 => ?_) (fun c_35 => ?_)
                · refine ax_iinc (v := _ + 1) (lv' := [(3, _), (2, _), (0, _), (1, _)]) dX12_wake_58 rfl rfl (by decide) rfl ?_
                  refine ax_mE (M2 := mIter (fun h M => mWakeH t st h M) (k + 1) N) (by rw [show mIter (fun h M => mWakeH t st h M) (k + 1) N = mWakeH t st k P by rw [← hNP]; rfl]; unfold mWakeH; rw [if_neg c_35]) ?_
                  refine ax_goto (tgt := 20) dX12_wake_61 (by decide) ?_
                  rw [nI_1]
                  exact ax_loc rfl (ih (k + 1) (by omega))
                · refine ax_aload_n (i := 0) dX12_wake_38 rfl rfl rfl ?_
                  refine ax_mR hm dX12_wake_39 fl_X12_210 rfl (by decide) ?_
                  refine ax_aload_n (i := 0) dX12_wake_42 rfl rfl rfl ?_
                  refine ax_mS dX12_wake_43 fl_X12_356 rfl ?_
                  refine ax_top hP.2.2.2.1 ?_
                  refine ax_iload_n (i := 3) dX12_wake_46 rfl rfl ?_
                  refine ax_mPIN (N := 8) hm dX12_wake_47 rfl rfl (by decide) (hP.lt (by omega) (Classical.not_not.mp c_35)) ?_
                  refine ax_aload_n (i := 0) dX12_wake_48 rfl rfl rfl ?_
                  refine ax_dup dX12_wake_49 rfl ?_
                  refine ax_mS dX12_wake_50 fl_X12_356 rfl ?_
                  refine ax_iconst (v := 1) dX12_wake_53 (by decide) ?_
                  refine ax_iadd dX12_wake_54 ?_
                  refine ax_mPS dX12_wake_55 fl_X12_356 rfl rfl ?_
                  refine ax_iinc (v := _ + 1) (lv' := [(3, _), (2, _), (0, _), (1, _)]) dX12_wake_58 rfl rfl (by decide) rfl ?_
                  refine ax_mE (M2 := mIter (fun h M => mWakeH t st h M) (k + 1) N) (by rw [show mIter (fun h M => mWakeH t st h M) (k + 1) N = mWakeH t st k P by rw [← hNP]; rfl]; unfold mWakeH; rw [if_pos (Classical.not_not.mp c_35)]; rfl) ?_
                  refine ax_goto (tgt := 20) dX12_wake_61 (by decide) ?_
                  rw [nI_1]
                  exact ax_loc rfl (ih (k + 1) (by omega))
          refine ax_iconst (v := nI 0) dX12_wake_18 (by decide) ?_
          refine ax_istore_n (i := 3) (lv' := [(3, _), (2, _), (0, _), (1, _)]) dX12_wake_19 rfl (by decide) rfl ?_
          exact ax_loc rfl (IN (mN N 52) 0 (by omega))
    exact L
  refine ax_aload_n (i := 0) dX12_wake_0 rfl rfl rfl ?_
  refine ax_iload_n (i := 1) dX12_wake_1 rfl rfl ?_
  refine ax_invV (c := 13) (n := 1) (As := [_]) dX12_wake_2 cb_X12_place cv_X12_352.1 cv_X12_352.2.1 cv_X12_352.2.2 rfl (by decide) rfl ⟨Nat.le_of_ble_eq_true rfl, Nat.le_of_ble_eq_true rfl⟩ (Nat.le_of_ble_eq_true rfl) rfl (t_place hm hI ?_)
  refine ax_aload_n (i := 0) dX12_wake_5 rfl rfl rfl ?_
  refine ax_iconst (v := 0) dX12_wake_6 (by decide) ?_
  refine ax_mPS dX12_wake_7 fl_X12_356 rfl rfl ?_
  refine ax_iconst (v := nI 0) dX12_wake_10 (by decide) ?_
  refine ax_istore_n (i := 2) (lv' := [(2, _), (0, _), (1, _)]) dX12_wake_11 rfl (by decide) rfl ?_
  exact ax_loc rfl (L 10 0 (by omega))
