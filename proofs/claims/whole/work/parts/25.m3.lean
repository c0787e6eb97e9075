theorem mCnt_0 (M : aM) (s : Nat) (ab : Prop) (th : Int64) (k : Nat) : mCnt M s ab th k 0 = 0 := by cases k <;> rfl
theorem mAhead_0 (M : aM) (s k i : Nat) : mAhead M s k i 0 = 0 := by cases i <;> rfl
theorem mMidGo_0 (M : aM) (s t n c k : Nat) (a : Int64) : mMidGo M s t n c k 0 a = a := by cases k <;> rfl
theorem iC_le (p : Prop) : iC p 1 0 ≤ 1 := by
  by_cases h : p
  · rw [iC_t h]; exact Nat.le_refl 1
  · rw [iC_f h]; exact Nat.zero_le 1
theorem mCnt_le (M : aM) (s : Nat) (ab : Prop) (th : Int64) : ∀ (n k : Nat), mCnt M s ab th k n ≤ n
  | 0, k => by rw [mCnt_0]; exact Nat.le_refl 0
  | n + 1, 0 => Nat.zero_le _
  | n + 1, k + 1 => by
    show mCnt M s ab th k n + iC _ 1 0 ≤ n + 1
    have h1 := mCnt_le M s ab th n k
    have h2 := iC_le (mHas M s (k + 1) ∧ (ab → th < mVal M s (k + 1)))
    omega
theorem mAhead_le (M : aM) (s k : Nat) : ∀ (i n : Nat), mAhead M s k i n ≤ n
  | i, 0 => by rw [mAhead_0]; exact Nat.le_refl 0
  | 0, n + 1 => Nat.zero_le _
  | i + 1, n + 1 => by
    show mAhead M s k i n + iC _ 1 0 ≤ n + 1
    have h1 := mAhead_le M s k i n
    have h2 := iC_le (mHas M s (i + 1) ∧ (mVal M s (i + 1) < mVal M s k ∨ (mVal M s (i + 1) = mVal M s k ∧ i + 1 < k)))
    omega
theorem fin1 {Q : Option Value → awS → Nat → Nat → Prop} {S : awS} {p v : Int32} {kc ks : Nat} (h : Q (some (.int p)) S kc ks) (e : p = v) : Q (some (.int v)) S kc ks := by rw [e] at h; exact h
set_option maxHeartbeats 4000000 in
set_option maxRecDepth 100000 in
theorem t_has {b : Bool} {E : awE} {S : awS} {M : aM} {Q : Option Value → awS → Nat → Nat → Prop} (hm : mOk S) {s n : Nat} {x : Int32} (hs : s < 16) (hx : (x = nI n ∧ n ≤ 400) ∨ (x ≤ 0 ∧ n = 0)) (h1 : mHas M s n → Q (some (.int 1)) (putM S M) 0 0) (h0 : ¬ mHas M s n → Q (some (.int 0)) (putM S M) 0 0) : awT b E m_X12_has [.ref (nm 13 0), .int (nI s), .int x] (putM S M) Q := by
  refine awT.of (by decide) (by decide) (Nat.le_of_ble_eq_true rfl) ?_
  refine ax_iload_n (i := 2) dX12_has_0 rfl rfl ?_
  refine ax_if_le (tgt := 23) dX12_has_1 (by decide) (fun c_1 => ?_) (fun c_1 => ?_)
  · refine ax_iconst (v := 0) dX12_has_23 (by decide) ?_
    refine ax_iret dX12_has_24 rfl rfl ?_
    first | exact h0 (fun z => z.2 c_16) | exact h1 ⟨Nat.pos_of_ne_zero (fun z => c_1 (by rw [e, z]; decide)), c_16⟩ | exact h0 (fun z => hx.elim (fun q => absurd (q.1 ▸ c_1) (nI_nle z.1 (by have := q.2; omega))) (fun q => absurd z.1 (by rw [q.2]; exact Nat.lt_irrefl 0)))
  · have e : x = nI n := hx.elim (fun z => z.1) (fun z => absurd z.1 c_1)
    have hn : n ≤ 400 := hx.elim (fun z => z.2) (fun z => by omega)
    refine ax_aload_n (i := 0) dX12_has_4 rfl rfl rfl ?_
    refine ax_mR hm dX12_has_5 fl_X12_17 rfl (by decide) ?_
    refine ax_sipush (v := nI 401) dX12_has_8 (by decide) ?_
    refine ax_iload_n (i := 1) dX12_has_11 rfl rfl ?_
    refine ax_imulN dX12_has_12 ?_
    refine ax_iload_n (i := 2) dX12_has_13 rfl rfl ?_
    refine ax_top e ?_
    refine ax_iaddN dX12_has_14 ?_
    refine ax_mZN (N := 6416) hm dX12_has_15 rfl rfl (by decide) (by omega) ?_
    refine ax_if_eq (tgt := 23) dX12_has_16 (by decide) (fun c_16 => ?_) (fun c_16 => ?_)
    · refine ax_iconst (v := 0) dX12_has_23 (by decide) ?_
      refine ax_iret dX12_has_24 rfl rfl ?_
      first | exact h0 (fun z => z.2 c_16) | exact h1 ⟨Nat.pos_of_ne_zero (fun z => c_1 (by rw [e, z]; decide)), c_16⟩ | exact h0 (fun z => hx.elim (fun q => absurd (q.1 ▸ c_1) (nI_nle z.1 (by have := q.2; omega))) (fun q => absurd z.1 (by rw [q.2]; exact Nat.lt_irrefl 0)))
    · refine ax_iconst (v := 1) dX12_has_19 (by decide) ?_
      refine ax_goto (tgt := 24) dX12_has_20 (by decide) ?_
      refine ax_iret dX12_has_24 rfl rfl ?_
      first | exact h0 (fun z => z.2 c_16) | exact h1 ⟨Nat.pos_of_ne_zero (fun z => c_1 (by rw [e, z]; decide)), c_16⟩ | exact h0 (fun z => hx.elim (fun q => absurd (q.1 ▸ c_1) (nI_nle z.1 (by have := q.2; omega))) (fun q => absurd z.1 (by rw [q.2]; exact Nat.lt_irrefl 0)))
set_option maxHeartbeats 4000000 in
set_option maxRecDepth 100000 in
theorem t_truthAt {b : Bool} {E : awE} {S : awS} {M : aM} {Q : Option Value → awS → Nat → Nat → Prop} (hm : mOk S) {r s t : Nat} (hr : r < 16) (hs : s < 16) (ht : t ≤ 400) (h : Q (some (.int (mTru M r s t))) (putM S M) 0 0) : awT b E m_X12_truthAt [.ref (nm 13 0), .int (nI r), .int (nI s), .int (nI t)] (putM S M) Q := by
  refine awT.of (by decide) (by decide) (Nat.le_of_ble_eq_true rfl) ?_
  refine ax_aload_n (i := 0) dX12_truthAt_0 rfl rfl rfl ?_
  refine ax_mR hm dX12_truthAt_1 fl_X12_49 rfl (by decide) ?_
  refine ax_sipush (v := nI 401) dX12_truthAt_4 (by decide) ?_
  refine ax_bipush (v := nI 16) dX12_truthAt_7 (by decide) ?_
  refine ax_iload_n (i := 1) dX12_truthAt_9 rfl rfl ?_
  refine ax_imulN dX12_truthAt_10 ?_
  refine ax_iload_n (i := 2) dX12_truthAt_11 rfl rfl ?_
  refine ax_iaddN dX12_truthAt_12 ?_
  refine ax_imulN dX12_truthAt_13 ?_
  refine ax_iload_n (i := 3) dX12_truthAt_14 rfl rfl ?_
  refine ax_iaddN dX12_truthAt_15 ?_
  refine ax_mBN (N := 102656) hm dX12_truthAt_16 rfl rfl (by decide) (by omega) ?_
  refine ax_iconst (v := nI 1) dX12_truthAt_17 (by decide) ?_
  refine ax_isub dX12_truthAt_18 ?_
  refine ax_iret dX12_truthAt_19 rfl rfl ?_
  exact h
set_option maxHeartbeats 4000000 in
set_option maxRecDepth 100000 in
theorem t_both {b : Bool} {E : awE} {S : awS} {M : aM} {Q : Option Value → awS → Nat → Nat → Prop} (hm : mOk S) {x y : Int32} (h : Q (some (.int (mBoth x y))) (putM S M) 0 0) : awT b E m_X12_both [.ref (nm 13 0), .int x, .int y] (putM S M) Q := by
  refine awT.of (by decide) (by decide) (Nat.le_of_ble_eq_true rfl) ?_
  refine ax_iload_n (i := 1) dX12_both_0 rfl rfl ?_
  refine ax_iconst (v := 1) dX12_both_1 (by decide) ?_
  refine ax_icmp_ne (tgt := 14) dX12_both_2 (by decide) (fun c_2 => ?_) (fun c_2 => ?_)
  · refine ax_iload_n (i := 1) dX12_both_14 rfl rfl ?_
    refine ax_if_eq (tgt := 22) dX12_both_15 (by decide) (fun c_15 => ?_) (fun c_15 => ?_)
    · refine ax_iconst (v := 0) dX12_both_22 (by decide) ?_
      refine ax_goto (tgt := 27) dX12_both_23 (by decide) ?_
      refine ax_iret dX12_both_27 rfl rfl ?_
      exact fin1 h (by unfold mBoth; grind)
    · refine ax_iload_n (i := 2) dX12_both_18 rfl rfl ?_
      refine ax_if_ne (tgt := 26) dX12_both_19 (by decide) (fun c_19 => ?_) (fun c_19 => ?_)
      · refine ax_iconst (v := -1) dX12_both_26 (by decide) ?_
        refine ax_iret dX12_both_27 rfl rfl ?_
        exact fin1 h (by unfold mBoth; grind)
      · refine ax_iconst (v := 0) dX12_both_22 (by decide) ?_
        refine ax_goto (tgt := 27) dX12_both_23 (by decide) ?_
        refine ax_iret dX12_both_27 rfl rfl ?_
        exact fin1 h (by unfold mBoth; grind)
  · refine ax_iload_n (i := 2) dX12_both_5 rfl rfl ?_
    refine ax_iconst (v := 1) dX12_both_6 (by decide) ?_
    refine ax_icmp_ne (tgt := 14) dX12_both_7 (by decide) (fun c_7 => ?_) (fun c_7 => ?_)
    · refine ax_iload_n (i := 1) dX12_both_14 rfl rfl ?_
      refine ax_if_eq (tgt := 22) dX12_both_15 (by decide) (fun c_15 => ?_) (fun c_15 => ?_)
      · refine ax_iconst (v := 0) dX12_both_22 (by decide) ?_
        refine ax_goto (tgt := 27) dX12_both_23 (by decide) ?_
        refine ax_iret dX12_both_27 rfl rfl ?_
        exact fin1 h (by unfold mBoth; grind)
      · refine ax_iload_n (i := 2) dX12_both_18 rfl rfl ?_
        refine ax_if_ne (tgt := 26) dX12_both_19 (by decide) (fun c_19 => ?_) (fun c_19 => ?_)
        · refine ax_iconst (v := -1) dX12_both_26 (by decide) ?_
          refine ax_iret dX12_both_27 rfl rfl ?_
          exact fin1 h (by unfold mBoth; grind)
        · refine ax_iconst (v := 0) dX12_both_22 (by decide) ?_
          refine ax_goto (tgt := 27) dX12_both_23 (by decide) ?_
          refine ax_iret dX12_both_27 rfl rfl ?_
          exact fin1 h (by unfold mBoth; grind)
    · refine ax_iconst (v := 1) dX12_both_10 (by decide) ?_
      refine ax_goto (tgt := 27) dX12_both_11 (by decide) ?_
      refine ax_iret dX12_both_27 rfl rfl ?_
      exact fin1 h (by unfold mBoth; grind)
set_option maxHeartbeats 4000000 in
set_option maxRecDepth 100000 in
theorem t_countOf {b : Bool} {E : awE} {S : awS} {M : aM} {Q : Option Value → awS → Nat → Nat → Prop} (hm : mOk S) {s t n : Nat} {x4 : Int32} {th : Int64} {ab : Prop} (hs : s < 16) (ht : t ≤ 400) (hn : n ≤ 40) (ha : ab ↔ ¬ x4 = 0) (h : Q (some (.int (nI (mCnt M s ab th t n)))) (putM S M) 0 0) : awT b E m_X12_countOf [.ref (nm 13 0), .int (nI s), .int (nI t), .int (nI n), .int x4, .long th] (putM S M) Q := by
  refine awT.of (by decide) (by decide) (Nat.le_of_ble_eq_true rfl) ?_
  have L : ∀ (m k c : Nat), k + n = t + m → k ≤ t → c + mCnt M s ab th k m = mCnt M s ab th t n → awX b E m_X12_countOf 6 [(8, .int (nI k)), (7, .int (nI c)), (0, .ref (nm 13 0)), (1, .int (nI s)), (2, .int (nI t)), (3, .int (nI n)), (4, .int x4), (5, .long th)] [] (putM S M) 0 0 Q := by
    intro m
    induction m with
    | zero =>
      intro k c e1 e2 e3
      refine ax_iload dX12_countOf_6 rfl ?_
      refine ax_iload_n (i := 2) dX12_countOf_8 rfl rfl ?_
      refine ax_iload_n (i := 3) dX12_countOf_9 rfl rfl ?_
      refine ax_isub dX12_countOf_10 ?_
      refine ax_icmp_le (tgt := 69) dX12_countOf_11 (by decide) (fun _ => ?_) (fun z => absurd ((cmpW e1 e2 (by omega) (by omega)).mpr rfl) z)
      refine ax_iload dX12_countOf_69 rfl ?_
      refine ax_iret dX12_countOf_71 rfl rfl ?_
      rw [show c = mCnt M s ab th t n by rw [mCnt_0] at e3; omega]
      exact h
    | succ m ih =>
      intro k c e1 e2 e3
      cases k with
      | zero =>
        refine ax_iload dX12_countOf_6 rfl ?_
        refine ax_iload_n (i := 2) dX12_countOf_8 rfl rfl ?_
        refine ax_iload_n (i := 3) dX12_countOf_9 rfl rfl ?_
        refine ax_isub dX12_countOf_10 ?_
        refine ax_icmp_le (tgt := 69) dX12_countOf_11 (by decide) (fun z => absurd ((cmpW e1 e2 (by omega) (by omega)).mp z) (by omega)) (fun _ => ?_)
        refine ax_iload dX12_countOf_14 rfl ?_
        refine ax_if_le (tgt := 69) dX12_countOf_16 (by decide) (fun _ => ?_) (fun z => absurd (by decide) z)
        refine ax_iload dX12_countOf_69 rfl ?_
        refine ax_iret dX12_countOf_71 rfl rfl ?_
        rw [show c = mCnt M s ab th t n from e3]
        exact h
      | succ k =>
        have e4 : c + (mCnt M s ab th k m + iC (mHas M s (k + 1) ∧ (ab → th < mVal M s (k + 1))) 1 0) = mCnt M s ab th t n := e3
        refine ax_iload dX12_countOf_6 rfl ?_
        refine ax_iload_n (i := 2) dX12_countOf_8 rfl rfl ?_
        refine ax_iload_n (i := 3) dX12_countOf_9 rfl rfl ?_
        refine ax_isub dX12_countOf_10 ?_
        refine ax_icmp_le (tgt := 69) dX12_countOf_11 (by decide) (fun c_11 => ?_) (fun c_11 => ?_)
        · exact absurd ((cmpW e1 e2 (by omega) (by omega)).mp c_11) (by omega)
        · refine ax_iload dX12_countOf_14 rfl ?_
          refine ax_if_le (tgt := 69) dX12_countOf_16 (by decide) (fun c_16 => ?_) (fun c_16 => ?_)
          · exact absurd c_16 (nI_nle (by omega) (by omega))
          · refine ax_iload dX12_countOf_19 rfl ?_
            refine ax_aload_n (i := 0) dX12_countOf_21 rfl rfl rfl ?_
            refine ax_iload_n (i := 1) dX12_countOf_22 rfl rfl ?_
            refine ax_iload dX12_countOf_23 rfl ?_
            refine ax_invV (c := 13) (n := 2) (As := [_, _]) dX12_countOf_25 cb_X12_has cv_X12_306.1 cv_X12_306.2.1 cv_X12_306.2.2 rfl (by decide) rfl ⟨Nat.le_of_ble_eq_true rfl, Nat.le_of_ble_eq_true rfl⟩ (Nat.le_of_ble_eq_true rfl) rfl (t_has hm hs (Or.inl ⟨rfl, by omega⟩) (fun c_25 => ?_) (fun c_25 => ?_))
            · refine ax_if_eq (tgt := 59) dX12_countOf_28 (by decide) (fun z => absurd z (by decide)) (fun _ => ?_)
              refine ax_iload dX12_countOf_31 rfl ?_
              refine ax_if_eq (tgt := 55) dX12_countOf_33 (by decide) (fun c_33 => ?_) (fun c_33 => ?_)
              · refine ax_iconst (v := 1) dX12_countOf_55 (by decide) ?_
                refine ax_goto (tgt := 60) dX12_countOf_56 (by decide) ?_
                refine ax_iadd1 dX12_countOf_60 ?_
                refine ax_istore (lv' := [(7, _), (8, _), (0, _), (1, _), (2, _), (3, _), (4, _), (5, _)]) dX12_countOf_61 (by decide) rfl ?_
                refine ax_iinc (v := _ + (-1)) (lv' := [(8, _), (7, _), (0, _), (1, _), (2, _), (3, _), (4, _), (5, _)]) dX12_countOf_63 rfl rfl (by decide) rfl ?_
                first | (refine ax_goto (tgt := 6) dX12_countOf_66 (by decide) ?_; exact ax_loc (by rw [show nI (k + 1) + (-1) = nI k from pk_m1 k]; rfl) (ih k _ (by omega) (by omega) (by rw [iC_t ⟨c_25, fun z => by exact (lg_cmp_gt _ _).mp (Int32.not_le.mp c_52)⟩] at e4; omega))) | (refine ax_goto (tgt := 6) dX12_countOf_66 (by decide) ?_; exact ax_loc (by rw [show nI (k + 1) + (-1) = nI k from pk_m1 k]; rfl) (ih k _ (by omega) (by omega) (by rw [iC_t ⟨c_25, fun z => absurd c_33 (ha.mp z)⟩] at e4; omega))) | (refine ax_goto (tgt := 6) dX12_countOf_66 (by decide) ?_; exact ax_loc (by rw [show nI (k + 1) + (-1) = nI k from pk_m1 k]; rfl) (ih k _ (by omega) (by omega) (by rw [iC_f (fun z => absurd ((lg_cmp_gt _ _).mpr (z.2 (ha.mpr c_33))) (Int32.not_lt.mpr c_52))] at e4; omega))) | (refine ax_goto (tgt := 6) dX12_countOf_66 (by decide) ?_; exact ax_loc (by rw [show nI (k + 1) + (-1) = nI k from pk_m1 k]; rfl) (ih k _ (by omega) (by omega) (by rw [iC_f (fun z => c_25 z.1)] at e4; omega)))
              · refine ax_aload_n (i := 0) dX12_countOf_36 rfl rfl rfl ?_
                refine ax_mR hm dX12_countOf_37 fl_X12_13 rfl (by decide) ?_
                refine ax_sipush (v := nI 401) dX12_countOf_40 (by decide) ?_
                refine ax_iload_n (i := 1) dX12_countOf_43 rfl rfl ?_
                refine ax_imulN dX12_countOf_44 ?_
                refine ax_iload dX12_countOf_45 rfl ?_
                refine ax_iaddN dX12_countOf_47 ?_
                refine ax_mJN (N := 6416) hm dX12_countOf_48 rfl rfl (by decide) (by omega) ?_
                refine ax_lload dX12_countOf_49 rfl ?_
                refine ax_lcmp dX12_countOf_51 ?_
                refine ax_if_le (tgt := 59) dX12_countOf_52 (by decide) (fun c_52 => ?_) (fun c_52 => ?_)
                · refine ax_iconst (v := nI 0) dX12_countOf_59 (by decide) ?_
                  refine ax_iaddN dX12_countOf_60 ?_
                  refine ax_istore (lv' := [(7, _), (8, _), (0, _), (1, _), (2, _), (3, _), (4, _), (5, _)]) dX12_countOf_61 (by decide) rfl ?_
                  refine ax_iinc (v := _ + (-1)) (lv' := [(8, _), (7, _), (0, _), (1, _), (2, _), (3, _), (4, _), (5, _)]) dX12_countOf_63 rfl rfl (by decide) rfl ?_
                  first | (refine ax_goto (tgt := 6) dX12_countOf_66 (by decide) ?_; exact ax_loc (by rw [show nI (k + 1) + (-1) = nI k from pk_m1 k]; rfl) (ih k _ (by omega) (by omega) (by rw [iC_t ⟨c_25, fun z => by exact (lg_cmp_gt _ _).mp (Int32.not_le.mp c_52)⟩] at e4; omega))) | (refine ax_goto (tgt := 6) dX12_countOf_66 (by decide) ?_; exact ax_loc (by rw [show nI (k + 1) + (-1) = nI k from pk_m1 k]; rfl) (ih k _ (by omega) (by omega) (by rw [iC_t ⟨c_25, fun z => absurd c_33 (ha.mp z)⟩] at e4; omega))) | (refine ax_goto (tgt := 6) dX12_countOf_66 (by decide) ?_; exact ax_loc (by rw [show nI (k + 1) + (-1) = nI k from pk_m1 k]; rfl) (ih k _ (by omega) (by omega) (by rw [iC_f (fun z => absurd ((lg_cmp_gt _ _).mpr (z.2 (ha.mpr c_33))) (Int32.not_lt.mpr c_52))] at e4; omega))) | (refine ax_goto (tgt := 6) dX12_countOf_66 (by decide) ?_; exact ax_loc (by rw [show nI (k + 1) + (-1) = nI k from pk_m1 k]; rfl) (ih k _ (by omega) (by omega) (by rw [iC_f (fun z => c_25 z.1)] at e4; omega)))
                · refine ax_iconst (v := 1) dX12_countOf_55 (by decide) ?_
                  refine ax_goto (tgt := 60) dX12_countOf_56 (by decide) ?_
                  refine ax_iadd1 dX12_countOf_60 ?_
                  refine ax_istore (lv' := [(7, _), (8, _), (0, _), (1, _), (2, _), (3, _), (4, _), (5, _)]) dX12_countOf_61 (by decide) rfl ?_
                  refine ax_iinc (v := _ + (-1)) (lv' := [(8, _), (7, _), (0, _), (1, _), (2, _), (3, _), (4, _), (5, _)]) dX12_countOf_63 rfl rfl (by decide) rfl ?_
                  first | (refine ax_goto (tgt := 6) dX12_countOf_66 (by decide) ?_; exact ax_loc (by rw [show nI (k + 1) + (-1) = nI k from pk_m1 k]; rfl) (ih k _ (by omega) (by omega) (by rw [iC_t ⟨c_25, fun z => by exact (lg_cmp_gt _ _).mp (Int32.not_le.mp c_52)⟩] at e4; omega))) | (refine ax_goto (tgt := 6) dX12_countOf_66 (by decide) ?_; exact ax_loc (by rw [show nI (k + 1) + (-1) = nI k from pk_m1 k]; rfl) (ih k _ (by omega) (by omega) (by rw [iC_t ⟨c_25, fun z => absurd c_33 (ha.mp z)⟩] at e4; omega))) | (refine ax_goto (tgt := 6) dX12_countOf_66 (by decide) ?_; exact ax_loc (by rw [show nI (k + 1) + (-1) = nI k from pk_m1 k]; rfl) (ih k _ (by omega) (by omega) (by rw [iC_f (fun z => absurd ((lg_cmp_gt _ _).mpr (z.2 (ha.mpr c_33))) (Int32.not_lt.mpr c_52))] at e4; omega))) | (refine ax_goto (tgt := 6) dX12_countOf_66 (by decide) ?_; exact ax_loc (by rw [show nI (k + 1) + (-1) = nI k from pk_m1 k]; rfl) (ih k _ (by omega) (by omega) (by rw [iC_f (fun z => c_25 z.1)] at e4; omega)))
            · refine ax_if_eq (tgt := 59) dX12_countOf_28 (by decide) (fun _ => ?_) (fun z => absurd (by decide) z)
              refine ax_iconst (v := nI 0) dX12_countOf_59 (by decide) ?_
              refine ax_iaddN dX12_countOf_60 ?_
              refine ax_istore (lv' := [(7, _), (8, _), (0, _), (1, _), (2, _), (3, _), (4, _), (5, _)]) dX12_countOf_61 (by decide) rfl ?_
              refine ax_iinc (v := _ + (-1)) (lv' := [(8, _), (7, _), (0, _), (1, _), (2, _), (3, _), (4, _), (5, _)]) dX12_countOf_63 rfl rfl (by decide) rfl ?_
              first | (refine ax_goto (tgt := 6) dX12_countOf_66 (by decide) ?_; exact ax_loc (by rw [show nI (k + 1) + (-1) = nI k from pk_m1 k]; rfl) (ih k _ (by omega) (by omega) (by rw [iC_t ⟨c_25, fun z => by exact (lg_cmp_gt _ _).mp (Int32.not_le.mp c_52)⟩] at e4; omega))) | (refine ax_goto (tgt := 6) dX12_countOf_66 (by decide) ?_; exact ax_loc (by rw [show nI (k + 1) + (-1) = nI k from pk_m1 k]; rfl) (ih k _ (by omega) (by omega) (by rw [iC_t ⟨c_25, fun z => absurd c_33 (ha.mp z)⟩] at e4; omega))) | (refine ax_goto (tgt := 6) dX12_countOf_66 (by decide) ?_; exact ax_loc (by rw [show nI (k + 1) + (-1) = nI k from pk_m1 k]; rfl) (ih k _ (by omega) (by omega) (by rw [iC_f (fun z => absurd ((lg_cmp_gt _ _).mpr (z.2 (ha.mpr c_33))) (Int32.not_lt.mpr c_52))] at e4; omega))) | (refine ax_goto (tgt := 6) dX12_countOf_66 (by decide) ?_; exact ax_loc (by rw [show nI (k + 1) + (-1) = nI k from pk_m1 k]; rfl) (ih k _ (by omega) (by omega) (by rw [iC_f (fun z => c_25 z.1)] at e4; omega)))
  refine ax_iconst (v := nI 0) dX12_countOf_0 (by decide) ?_
  refine ax_istore (lv' := [(7, _), (0, _), (1, _), (2, _), (3, _), (4, _), (5, _)]) dX12_countOf_1 (by decide) rfl ?_
  refine ax_iload_n (i := 2) dX12_countOf_3 rfl rfl ?_
  refine ax_istore (lv' := [(8, _), (7, _), (0, _), (1, _), (2, _), (3, _), (4, _), (5, _)]) dX12_countOf_4 (by decide) rfl ?_
  exact ax_loc rfl (L n t 0 (by omega) (Nat.le_refl t) (by omega))
set_option maxHeartbeats 4000000 in
set_option maxRecDepth 100000 in
theorem t_isPart {b : Bool} {E : awE} {S : awS} {M : aM} {Q : Option Value → awS → Nat → Nat → Prop} (hm : mOk S) {r s t n : Nat} (hr : r < 16) (hs : s < 16) (ht : t ≤ 400) (hn : n ≤ 40) (h1 : mPart M r s t n → Q (some (.int 1)) (putM S M) 0 0) (h0 : ¬ mPart M r s t n → Q (some (.int 0)) (putM S M) 0 0) : awT b E m_X12_isPart [.ref (nm 13 0), .int (nI r), .int (nI s), .int (nI t), .int (nI n)] (putM S M) Q := by
  refine awT.of (by decide) (by decide) (Nat.le_of_ble_eq_true rfl) ?_
  refine ax_bipush (v := 100) dX12_isPart_0 (by decide) ?_
  refine ax_aload_n (i := 0) dX12_isPart_2 rfl rfl rfl ?_
  refine ax_iload_n (i := 2) dX12_isPart_3 rfl rfl ?_
  refine ax_iload_n (i := 3) dX12_isPart_4 rfl rfl ?_
  refine ax_iload dX12_isPart_5 rfl ?_
  refine ax_iconst (v := 1) dX12_isPart_7 (by decide) ?_
  refine ax_aload_n (i := 0) dX12_isPart_8 rfl rfl rfl ?_
  refine ax_mR hm dX12_isPart_9 fl_X12_27 rfl (by decide) ?_
  refine ax_iload_n (i := 1) dX12_isPart_12 rfl rfl ?_
  refine ax_mJN (N := 16) hm dX12_isPart_13 rfl rfl (by decide) (by omega) ?_
  refine ax_invV (c := 13) (n := 5) (As := [_, _, _, _, _]) dX12_isPart_14 cb_X12_countOf cv_X12_309.1 cv_X12_309.2.1 cv_X12_309.2.2 rfl (by decide) rfl ⟨Nat.le_of_ble_eq_true rfl, Nat.le_of_ble_eq_true rfl⟩ (Nat.le_of_ble_eq_true rfl) rfl (t_countOf (ab := True) (x4 := 1) hm hs ht hn (by decide) ?_)
  refine ax_imul dX12_isPart_17 ?_
  refine ax_aload_n (i := 0) dX12_isPart_18 rfl rfl rfl ?_
  refine ax_mR hm dX12_isPart_19 fl_X12_30 rfl (by decide) ?_
  refine ax_iload_n (i := 1) dX12_isPart_22 rfl rfl ?_
  refine ax_mIN (N := 16) hm dX12_isPart_23 rfl rfl (by decide) (by omega) ?_
  refine ax_aload_n (i := 0) dX12_isPart_24 rfl rfl rfl ?_
  refine ax_iload_n (i := 2) dX12_isPart_25 rfl rfl ?_
  refine ax_iload_n (i := 3) dX12_isPart_26 rfl rfl ?_
  refine ax_iload dX12_isPart_27 rfl ?_
  refine ax_iconst (v := 0) dX12_isPart_29 (by decide) ?_
  refine ax_lconst (v := 0) dX12_isPart_30 (by decide) ?_
  refine ax_invV (c := 13) (n := 5) (As := [_, _, _, _, _]) dX12_isPart_31 cb_X12_countOf cv_X12_309.1 cv_X12_309.2.1 cv_X12_309.2.2 rfl (by decide) rfl ⟨Nat.le_of_ble_eq_true rfl, Nat.le_of_ble_eq_true rfl⟩ (Nat.le_of_ble_eq_true rfl) rfl (t_countOf (ab := False) (x4 := 0) hm hs ht hn (by decide) ?_)
  refine ax_imul dX12_isPart_34 ?_
  refine ax_icmp_lt (tgt := 42) dX12_isPart_35 (by decide) (fun c_35 => ?_) (fun c_35 => ?_)
  · refine ax_iconst (v := 0) dX12_isPart_42 (by decide) ?_
    refine ax_iret dX12_isPart_43 rfl rfl ?_
    first | exact h1 (Int32.not_lt.mp c_35) | exact h0 (fun z => absurd c_35 (Int32.not_lt.mpr z))
  · refine ax_iconst (v := 1) dX12_isPart_38 (by decide) ?_
    refine ax_goto (tgt := 43) dX12_isPart_39 (by decide) ?_
    refine ax_iret dX12_isPart_43 rfl rfl ?_
    first | exact h1 (Int32.not_lt.mp c_35) | exact h0 (fun z => absurd c_35 (Int32.not_lt.mpr z))
set_option maxHeartbeats 4000000 in
set_option maxRecDepth 100000 in
theorem t_middle {b : Bool} {E : awE} {S : awS} {M : aM} {Q : Option Value → awS → Nat → Nat → Prop} (hm : mOk S) {s t n many : Nat} (hs : s < 16) (ht : t ≤ 400) (ht0 : 0 < t) (hn : n ≤ 40) (hmany : 0 < many ∧ many ≤ 1000) (h : Q (some (.long (mMid M s t n many))) (putM S M) 0 0) : awT b E m_X12_middle [.ref (nm 13 0), .int (nI s), .int (nI t), .int (nI n), .int (nI many)] (putM S M) Q := by
  refine awT.of (by decide) (by decide) (Nat.le_of_ble_eq_true rfl) ?_
  have IN : ∀ (k : Nat) (x5 : Int64), 0 < k → k < t → ∀ (m i c : Nat), i + n + 1 = t + m → i < t → c + mAhead M s k i m = mAhead M s k (t - 1) n → (∀ lv : List (Nat × Value), [(8, Value.int (nI (mAhead M s k (t - 1) n))), (7, .int (nI k)), (5, .long x5), (0, .ref (nm 13 0)), (1, .int (nI s)), (2, .int (nI t)), (3, .int (nI n)), (4, .int (nI many))].map (fun q => lk lv q.1) = [(8, Value.int (nI (mAhead M s k (t - 1) n))), (7, .int (nI k)), (5, .long x5), (0, .ref (nm 13 0)), (1, .int (nI s)), (2, .int (nI t)), (3, .int (nI n)), (4, .int (nI many))].map (fun q => some q.2) → awX b E m_X12_middle 131 lv [] (putM S M) 0 0 Q) → mHas M s k → awX b E m_X12_middle 29 [(9, .int (nI i)), (8, .int (nI c)), (7, .int (nI k)), (5, .long x5), (0, .ref (nm 13 0)), (1, .int (nI s)), (2, .int (nI t)), (3, .int (nI n)), (4, .int (nI many))] [] (putM S M) 0 0 Q := by
    intro k x5 hk0 hkt m
    induction m with
    | zero =>
      intro i c e1 e2 e3 K hk
      refine ax_iload dX12_middle_29 rfl ?_
      refine ax_iload_n (i := 2) dX12_middle_31 rfl rfl ?_
      refine ax_iload_n (i := 3) dX12_middle_32 rfl rfl ?_
      refine ax_isub dX12_middle_33 ?_
      refine ax_icmp_lt (tgt := 131) dX12_middle_34 (by decide) (fun _ => ?_) (fun z => absurd ((cmpW2 e1 e2 (by omega) (by omega)).mpr rfl) z)
      have e4 : c = mAhead M s k (t - 1) n := by rw [mAhead_0] at e3; omega
      subst e4
      exact K _ rfl
    | succ m ih =>
      intro i c e1 e2 e3 K hk
      cases i with
      | zero =>
        have e4 : c = mAhead M s k (t - 1) n := e3
        subst e4
        refine ax_iload dX12_middle_29 rfl ?_
        refine ax_iload_n (i := 2) dX12_middle_31 rfl rfl ?_
        refine ax_iload_n (i := 3) dX12_middle_32 rfl rfl ?_
        refine ax_isub dX12_middle_33 ?_
        refine ax_icmp_lt (tgt := 131) dX12_middle_34 (by decide) (fun z => absurd ((cmpW2 e1 e2 (by omega) (by omega)).mp z) (by omega)) (fun _ => ?_)
        refine ax_iload dX12_middle_37 rfl ?_
        refine ax_if_le (tgt := 131) dX12_middle_39 (by decide) (fun _ => ?_) (fun z => absurd (by decide) z)
        exact K _ rfl
      | succ i =>
        have e4 : c + (mAhead M s k i m + iC (mHas M s (i + 1) ∧ (mVal M s (i + 1) < mVal M s k ∨ (mVal M s (i + 1) = mVal M s k ∧ i + 1 < k))) 1 0) = mAhead M s k (t - 1) n := e3
        refine ax_iload dX12_middle_29 rfl ?_
        refine ax_iload_n (i := 2) dX12_middle_31 rfl rfl ?_
        refine ax_iload_n (i := 3) dX12_middle_32 rfl rfl ?_
        refine ax_isub dX12_middle_33 ?_
        refine ax_icmp_lt (tgt := 131) dX12_middle_34 (by decide) (fun c_34 => ?_) (fun c_34 => ?_)
        · exact absurd ((cmpW2 e1 e2 (by omega) (by omega)).mp c_34) (by omega)
        · refine ax_iload dX12_middle_37 rfl ?_
          refine ax_if_le (tgt := 131) dX12_middle_39 (by decide) (fun c_39 => ?_) (fun c_39 => ?_)
          · exact absurd c_39 (nI_nle (by omega) (by omega))
          · refine ax_aload_n (i := 0) dX12_middle_42 rfl rfl rfl ?_
            refine ax_iload_n (i := 1) dX12_middle_43 rfl rfl ?_
            refine ax_iload dX12_middle_44 rfl ?_
            refine ax_invV (c := 13) (n := 2) (As := [_, _]) dX12_middle_46 cb_X12_has cv_X12_306.1 cv_X12_306.2.1 cv_X12_306.2.2 rfl (by decide) rfl ⟨Nat.le_of_ble_eq_true rfl, Nat.le_of_ble_eq_true rfl⟩ (Nat.le_of_ble_eq_true rfl) rfl (t_has hm hs (Or.inl ⟨rfl, by omega⟩) (fun c_46 => ?_) (fun c_46 => ?_))
            · refine ax_if_eq (tgt := 131) dX12_middle_49 (by decide) (fun z => absurd z (by decide)) (fun _ => ?_)
              refine ax_aload_n (i := 0) dX12_middle_52 rfl rfl rfl ?_
              refine ax_mR hm dX12_middle_53 fl_X12_13 rfl (by decide) ?_
              refine ax_sipush (v := nI 401) dX12_middle_56 (by decide) ?_
              refine ax_iload_n (i := 1) dX12_middle_59 rfl rfl ?_
              refine ax_imulN dX12_middle_60 ?_
              refine ax_iload dX12_middle_61 rfl ?_
              refine ax_iaddN dX12_middle_63 ?_
              refine ax_mJN (N := 6416) hm dX12_middle_64 rfl rfl (by decide) (by omega) ?_
              refine ax_lstore (lv' := [(10, _), (9, _), (8, _), (7, _), (5, _), (0, _), (1, _), (2, _), (3, _), (4, _)]) dX12_middle_65 (by decide) rfl ?_
              refine ax_aload_n (i := 0) dX12_middle_67 rfl rfl rfl ?_
              refine ax_mR hm dX12_middle_68 fl_X12_13 rfl (by decide) ?_
              refine ax_sipush (v := nI 401) dX12_middle_71 (by decide) ?_
              refine ax_iload_n (i := 1) dX12_middle_74 rfl rfl ?_
              refine ax_imulN dX12_middle_75 ?_
              refine ax_iload dX12_middle_76 rfl ?_
              refine ax_iaddN dX12_middle_78 ?_
              refine ax_mJN (N := 6416) hm dX12_middle_79 rfl rfl (by decide) (by omega) ?_
              refine ax_lstore (lv' := [(12, _), (10, _), (9, _), (8, _), (7, _), (5, _), (0, _), (1, _), (2, _), (3, _), (4, _)]) dX12_middle_80 (by decide) rfl ?_
              refine ax_iload dX12_middle_82 rfl ?_
              refine ax_aload_n (i := 0) dX12_middle_84 rfl rfl rfl ?_
              refine ax_iload_n (i := 1) dX12_middle_85 rfl rfl ?_
              refine ax_iload dX12_middle_86 rfl ?_
              refine ax_invV (c := 13) (n := 2) (As := [_, _]) dX12_middle_88 cb_X12_has cv_X12_306.1 cv_X12_306.2.1 cv_X12_306.2.2 rfl (by decide) rfl ⟨Nat.le_of_ble_eq_true rfl, Nat.le_of_ble_eq_true rfl⟩ (Nat.le_of_ble_eq_true rfl) rfl (t_has hm hs (Or.inl ⟨rfl, by omega⟩) (fun c_88 => ?_) (fun c_88 => ?_))
              · refine ax_if_eq (tgt := 121) dX12_middle_91 (by decide) (fun z => absurd z (by decide)) (fun _ => ?_)
                refine ax_lload dX12_middle_94 rfl ?_
                refine ax_lload dX12_middle_96 rfl ?_
                refine ax_lcmp dX12_middle_98 ?_
                refine ax_if_lt (tgt := 117) dX12_middle_99 (by decide) (fun c_99 => ?_) (fun c_99 => ?_)
                · refine ax_iconst (v := 1) dX12_middle_117 (by decide) ?_
                  refine ax_goto (tgt := 122) dX12_middle_118 (by decide) ?_
                  refine ax_iadd1 dX12_middle_122 ?_
                  refine ax_istore (lv' := [(8, _), (12, _), (10, _), (9, _), (7, _), (5, _), (0, _), (1, _), (2, _), (3, _), (4, _)]) dX12_middle_123 (by decide) rfl ?_
                  refine ax_iinc (v := _ + (-1)) (lv' := [(9, _), (8, _), (12, _), (10, _), (7, _), (5, _), (0, _), (1, _), (2, _), (3, _), (4, _)]) dX12_middle_125 rfl rfl (by decide) rfl ?_
                  rw [iC_t ⟨c_88, Or.inl ((lg_cmp_lt _ _).mp c_99)⟩] at e4
                  refine ax_goto (tgt := 29) dX12_middle_128 (by decide) ?_
                  exact ax_loc (by rw [show nI (i + 1) + (-1) = nI i from pk_m1 i]; rfl) (ih i _ (by omega) (by omega) (by omega) K hk)
                · refine ax_lload dX12_middle_102 rfl ?_
                  refine ax_lload dX12_middle_104 rfl ?_
                  refine ax_lcmp dX12_middle_106 ?_
                  refine ax_if_ne (tgt := 121) dX12_middle_107 (by decide) (fun c_107 => ?_) (fun c_107 => ?_)
                  · refine ax_iconst (v := nI 0) dX12_middle_121 (by decide) ?_
                    refine ax_iaddN dX12_middle_122 ?_
                    refine ax_istore (lv' := [(8, _), (12, _), (10, _), (9, _), (7, _), (5, _), (0, _), (1, _), (2, _), (3, _), (4, _)]) dX12_middle_123 (by decide) rfl ?_
                    refine ax_iinc (v := _ + (-1)) (lv' := [(9, _), (8, _), (12, _), (10, _), (7, _), (5, _), (0, _), (1, _), (2, _), (3, _), (4, _)]) dX12_middle_125 rfl rfl (by decide) rfl ?_
                    rw [iC_f (fun z => z.2.elim (fun q => c_99 ((lg_cmp_lt _ _).mpr q)) (fun q => c_107 ((lg_cmp_eq _ _).mpr q.1)))] at e4
                    refine ax_goto (tgt := 29) dX12_middle_128 (by decide) ?_
                    exact ax_loc (by rw [show nI (i + 1) + (-1) = nI i from pk_m1 i]; rfl) (ih i _ (by omega) (by omega) (by omega) K hk)
                  · refine ax_iload dX12_middle_110 rfl ?_
                    refine ax_iload dX12_middle_112 rfl ?_
                    refine ax_icmp_ge (tgt := 121) dX12_middle_114 (by decide) (fun c_114 => ?_) (fun c_114 => ?_)
                    · refine ax_iconst (v := nI 0) dX12_middle_121 (by decide) ?_
                      refine ax_iaddN dX12_middle_122 ?_
                      refine ax_istore (lv' := [(8, _), (12, _), (10, _), (9, _), (7, _), (5, _), (0, _), (1, _), (2, _), (3, _), (4, _)]) dX12_middle_123 (by decide) rfl ?_
                      refine ax_iinc (v := _ + (-1)) (lv' := [(9, _), (8, _), (12, _), (10, _), (7, _), (5, _), (0, _), (1, _), (2, _), (3, _), (4, _)]) dX12_middle_125 rfl rfl (by decide) rfl ?_
                      rw [iC_f (fun z => z.2.elim (fun q => c_99 ((lg_cmp_lt _ _).mpr q)) (fun q => absurd c_114 (nI_ge q.2 (by omega))))] at e4
                      refine ax_goto (tgt := 29) dX12_middle_128 (by decide) ?_
                      exact ax_loc (by rw [show nI (i + 1) + (-1) = nI i from pk_m1 i]; rfl) (ih i _ (by omega) (by omega) (by omega) K hk)
                    · refine ax_iconst (v := 1) dX12_middle_117 (by decide) ?_
                      refine ax_goto (tgt := 122) dX12_middle_118 (by decide) ?_
                      refine ax_iadd1 dX12_middle_122 ?_
                      refine ax_istore (lv' := [(8, _), (12, _), (10, _), (9, _), (7, _), (5, _), (0, _), (1, _), (2, _), (3, _), (4, _)]) dX12_middle_123 (by decide) rfl ?_
                      refine ax_iinc (v := _ + (-1)) (lv' := [(9, _), (8, _), (12, _), (10, _), (7, _), (5, _), (0, _), (1, _), (2, _), (3, _), (4, _)]) dX12_middle_125 rfl rfl (by decide) rfl ?_
                      rw [iC_t ⟨c_88, Or.inr ⟨(lg_cmp_eq _ _).mp (Classical.not_not.mp c_107), Nat.lt_of_not_le (fun z => c_114 (nI_le z (by omega)))⟩⟩] at e4
                      refine ax_goto (tgt := 29) dX12_middle_128 (by decide) ?_
                      exact ax_loc (by rw [show nI (i + 1) + (-1) = nI i from pk_m1 i]; rfl) (ih i _ (by omega) (by omega) (by omega) K hk)
              · refine ax_if_eq (tgt := 121) dX12_middle_91 (by decide) (fun _ => ?_) (fun z => absurd (by decide) z)
                refine ax_iconst (v := nI 0) dX12_middle_121 (by decide) ?_
                refine ax_iaddN dX12_middle_122 ?_
                refine ax_istore (lv' := [(8, _), (12, _), (10, _), (9, _), (7, _), (5, _), (0, _), (1, _), (2, _), (3, _), (4, _)]) dX12_middle_123 (by decide) rfl ?_
                refine ax_iinc (v := _ + (-1)) (lv' := [(9, _), (8, _), (12, _), (10, _), (7, _), (5, _), (0, _), (1, _), (2, _), (3, _), (4, _)]) dX12_middle_125 rfl rfl (by decide) rfl ?_
                rw [iC_f (fun z => c_88 z.1)] at e4
                refine ax_goto (tgt := 29) dX12_middle_128 (by decide) ?_
                exact ax_loc (by rw [show nI (i + 1) + (-1) = nI i from pk_m1 i]; rfl) (ih i _ (by omega) (by omega) (by omega) K hk)
            · refine ax_if_eq (tgt := 131) dX12_middle_49 (by decide) (fun _ => ?_) (fun z => absurd (by decide) z)
              exact absurd hk c_46
  have OUT : ∀ (m k : Nat) (a : Int64), k + n + 1 = t + m → k < t → mMidGo M s (t - 1) n ((many - 1) / 2) k m a = mMid M s t n many → awX b E m_X12_middle 8 [(7, .int (nI k)), (5, .long a), (0, .ref (nm 13 0)), (1, .int (nI s)), (2, .int (nI t)), (3, .int (nI n)), (4, .int (nI many))] [] (putM S M) 0 0 Q := by
    intro m
    induction m with
    | zero =>
      intro k a e1 e2 e3
      refine ax_iload dX12_middle_8 rfl ?_
      refine ax_iload_n (i := 2) dX12_middle_10 rfl rfl ?_
      refine ax_iload_n (i := 3) dX12_middle_11 rfl rfl ?_
      refine ax_isub dX12_middle_12 ?_
      refine ax_icmp_lt (tgt := 178) dX12_middle_13 (by decide) (fun _ => ?_) (fun z => absurd ((cmpW2 e1 e2 (by omega) (by omega)).mpr rfl) z)
      refine ax_lload dX12_middle_178 rfl ?_
      refine ax_lret dX12_middle_180 rfl ?_
      rw [show a = mMid M s t n many by rw [mMidGo_0] at e3; exact e3]
      exact h
    | succ m ih =>
      intro k a e1 e2 e3
      cases k with
      | zero =>
        refine ax_iload dX12_middle_8 rfl ?_
        refine ax_iload_n (i := 2) dX12_middle_10 rfl rfl ?_
        refine ax_iload_n (i := 3) dX12_middle_11 rfl rfl ?_
        refine ax_isub dX12_middle_12 ?_
        refine ax_icmp_lt (tgt := 178) dX12_middle_13 (by decide) (fun z => absurd ((cmpW2 e1 e2 (by omega) (by omega)).mp z) (by omega)) (fun _ => ?_)
        refine ax_iload dX12_middle_16 rfl ?_
        refine ax_if_le (tgt := 178) dX12_middle_18 (by decide) (fun _ => ?_) (fun z => absurd (by decide) z)
        refine ax_lload dX12_middle_178 rfl ?_
        refine ax_lret dX12_middle_180 rfl ?_
        rw [show a = mMid M s t n many from e3]
        exact h
      | succ k =>
        have e4 : mMidGo M s (t - 1) n ((many - 1) / 2) k m (iC (mHas M s (k + 1) ∧ mAhead M s (k + 1) (t - 1) n = (many - 1) / 2) (mVal M s (k + 1)) a) = mMid M s t n many := e3
        have fin0 : ∀ (c : Nat), (mHas M s (k + 1) → c = mAhead M s (k + 1) (t - 1) n) → c ≤ 1000 → awX b E m_X12_middle 131 [(8, .int (nI c)), (7, .int (nI (k + 1))), (5, .long a), (0, .ref (nm 13 0)), (1, .int (nI s)), (2, .int (nI t)), (3, .int (nI n)), (4, .int (nI many))] [] (putM S M) 0 0 Q := by
          intro c hc hc2
          refine ax_aload_n (i := 0) dX12_middle_131 rfl rfl rfl ?_
          refine ax_iload_n (i := 1) dX12_middle_132 rfl rfl ?_
          refine ax_iload dX12_middle_133 rfl ?_
          refine ax_invV (c := 13) (n := 2) (As := [_, _]) dX12_middle_135 cb_X12_has cv_X12_306.1 cv_X12_306.2.1 cv_X12_306.2.2 rfl (by decide) rfl ⟨Nat.le_of_ble_eq_true rfl, Nat.le_of_ble_eq_true rfl⟩ (Nat.le_of_ble_eq_true rfl) rfl (t_has hm hs (Or.inl ⟨rfl, by omega⟩) (fun c_135 => ?_) (fun c_135 => ?_))
          · refine ax_if_eq (tgt := 168) dX12_middle_138 (by decide) (fun z => absurd z (by decide)) (fun _ => ?_)
            refine ax_iload dX12_middle_141 rfl ?_
            refine ax_iload dX12_middle_143 rfl ?_
            refine ax_iconst (v := nI 1) dX12_middle_145 (by decide) ?_
            refine ax_isubN dX12_middle_146 (by omega) ?_
            refine ax_iconst (v := nI 2) dX12_middle_147 (by decide) ?_
            refine ax_idiv dX12_middle_148 (by decide) ?_
            refine ax_top (pk_div (by omega) (by decide) (by decide)) ?_
            refine ax_icmp_ne (tgt := 168) dX12_middle_149 (by decide) (fun c_149 => ?_) (fun c_149 => ?_)
            · refine ax_lload dX12_middle_168 rfl ?_
              refine ax_lstore (lv' := [(5, _), (8, _), (7, _), (0, _), (1, _), (2, _), (3, _), (4, _)]) dX12_middle_170 (by decide) rfl ?_
              refine ax_iinc (v := _ + (-1)) (lv' := [(7, _), (5, _), (8, _), (0, _), (1, _), (2, _), (3, _), (4, _)]) dX12_middle_172 rfl rfl (by decide) rfl ?_
              rw [iC_f (fun z => c_149 (by rw [hc z.1, z.2]))] at e4
              refine ax_goto (tgt := 8) dX12_middle_175 (by decide) ?_
              exact ax_loc (by rw [show nI (k + 1) + (-1) = nI k from pk_m1 k]; rfl) (ih k _ (by omega) (by omega) e4)
            · refine ax_aload_n (i := 0) dX12_middle_152 rfl rfl rfl ?_
              refine ax_mR hm dX12_middle_153 fl_X12_13 rfl (by decide) ?_
              refine ax_sipush (v := nI 401) dX12_middle_156 (by decide) ?_
              refine ax_iload_n (i := 1) dX12_middle_159 rfl rfl ?_
              refine ax_imulN dX12_middle_160 ?_
              refine ax_iload dX12_middle_161 rfl ?_
              refine ax_iaddN dX12_middle_163 ?_
              refine ax_mJN (N := 6416) hm dX12_middle_164 rfl rfl (by decide) (by omega) ?_
              refine ax_goto (tgt := 170) dX12_middle_165 (by decide) ?_
              refine ax_lstore (lv' := [(5, _), (8, _), (7, _), (0, _), (1, _), (2, _), (3, _), (4, _)]) dX12_middle_170 (by decide) rfl ?_
              refine ax_iinc (v := _ + (-1)) (lv' := [(7, _), (5, _), (8, _), (0, _), (1, _), (2, _), (3, _), (4, _)]) dX12_middle_172 rfl rfl (by decide) rfl ?_
              rw [iC_t ⟨c_135, by rw [← hc c_135]; exact (nI_eq (by omega) (by omega)).mp (Classical.not_not.mp c_149)⟩] at e4
              refine ax_goto (tgt := 8) dX12_middle_175 (by decide) ?_
              exact ax_loc (by rw [show nI (k + 1) + (-1) = nI k from pk_m1 k]; rfl) (ih k _ (by omega) (by omega) e4)
          · refine ax_if_eq (tgt := 168) dX12_middle_138 (by decide) (fun _ => ?_) (fun z => absurd (by decide) z)
            refine ax_lload dX12_middle_168 rfl ?_
            refine ax_lstore (lv' := [(5, _), (8, _), (7, _), (0, _), (1, _), (2, _), (3, _), (4, _)]) dX12_middle_170 (by decide) rfl ?_
            refine ax_iinc (v := _ + (-1)) (lv' := [(7, _), (5, _), (8, _), (0, _), (1, _), (2, _), (3, _), (4, _)]) dX12_middle_172 rfl rfl (by decide) rfl ?_
            rw [iC_f (fun z => c_135 z.1)] at e4
            refine ax_goto (tgt := 8) dX12_middle_175 (by decide) ?_
            exact ax_loc (by rw [show nI (k + 1) + (-1) = nI k from pk_m1 k]; rfl) (ih k _ (by omega) (by omega) e4)
        have NO : ¬ mHas M s (k + 1) → ∀ lv : List (Nat × Value), [(9, Value.int (nI (t - 1))), (8, .int (nI 0)), (7, .int (nI (k + 1))), (5, .long a), (0, .ref (nm 13 0)), (1, .int (nI s)), (2, .int (nI t)), (3, .int (nI n)), (4, .int (nI many))].map (fun q => lk lv q.1) = [(9, Value.int (nI (t - 1))), (8, .int (nI 0)), (7, .int (nI (k + 1))), (5, .long a), (0, .ref (nm 13 0)), (1, .int (nI s)), (2, .int (nI t)), (3, .int (nI n)), (4, .int (nI many))].map (fun q => some q.2) → awX b E m_X12_middle 29 lv [] (putM S M) 0 0 Q := by
          intro hno lv hlv
          refine ax_loc hlv ?_
          refine ax_iload dX12_middle_29 rfl ?_
          refine ax_iload_n (i := 2) dX12_middle_31 rfl rfl ?_
          refine ax_iload_n (i := 3) dX12_middle_32 rfl rfl ?_
          refine ax_isub dX12_middle_33 ?_
          refine ax_icmp_lt (tgt := 131) dX12_middle_34 (by decide) (fun c_34 => ?_) (fun c_34 => ?_)
          · exact ax_loc rfl (fin0 0 (fun z => absurd z hno) (by decide))
          · refine ax_iload dX12_middle_37 rfl ?_
            refine ax_if_le (tgt := 131) dX12_middle_39 (by decide) (fun c_39 => ?_) (fun c_39 => ?_)
            · exact ax_loc rfl (fin0 0 (fun z => absurd z hno) (by decide))
            · refine ax_aload_n (i := 0) dX12_middle_42 rfl rfl rfl ?_
              refine ax_iload_n (i := 1) dX12_middle_43 rfl rfl ?_
              refine ax_iload dX12_middle_44 rfl ?_
              refine ax_invV (c := 13) (n := 2) (As := [_, _]) dX12_middle_46 cb_X12_has cv_X12_306.1 cv_X12_306.2.1 cv_X12_306.2.2 rfl (by decide) rfl ⟨Nat.le_of_ble_eq_true rfl, Nat.le_of_ble_eq_true rfl⟩ (Nat.le_of_ble_eq_true rfl) rfl (t_has hm hs (Or.inl ⟨rfl, by omega⟩) (fun c_46 => ?_) (fun c_46 => ?_))
              · exact absurd c_46 hno
              · refine ax_if_eq (tgt := 131) dX12_middle_49 (by decide) (fun _ => ?_) (fun z => absurd (by decide) z)
                exact ax_loc rfl (fin0 0 (fun z => absurd z hno) (by decide))
        refine ax_iload dX12_middle_8 rfl ?_
        refine ax_iload_n (i := 2) dX12_middle_10 rfl rfl ?_
        refine ax_iload_n (i := 3) dX12_middle_11 rfl rfl ?_
        refine ax_isub dX12_middle_12 ?_
        refine ax_icmp_lt (tgt := 178) dX12_middle_13 (by decide) (fun c_13 => ?_) (fun c_13 => ?_)
        · exact absurd ((cmpW2 e1 e2 (by omega) (by omega)).mp c_13) (by omega)
        · refine ax_iload dX12_middle_16 rfl ?_
          refine ax_if_le (tgt := 178) dX12_middle_18 (by decide) (fun c_18 => ?_) (fun c_18 => ?_)
          · exact absurd c_18 (nI_nle (by omega) (by omega))
          · refine ax_iconst (v := nI 0) dX12_middle_21 (by decide) ?_
            refine ax_istore (lv' := [(8, _), (7, _), (5, _), (0, _), (1, _), (2, _), (3, _), (4, _)]) dX12_middle_22 (by decide) rfl ?_
            refine ax_iload_n (i := 2) dX12_middle_24 rfl rfl ?_
            refine ax_iconst (v := nI 1) dX12_middle_25 (by decide) ?_
            refine ax_isubN dX12_middle_26 (by omega) ?_
            refine ax_istore (lv' := [(9, _), (8, _), (7, _), (5, _), (0, _), (1, _), (2, _), (3, _), (4, _)]) dX12_middle_27 (by decide) rfl ?_
            by_cases hk : mHas M s (k + 1)
            · exact ax_loc rfl (IN (k + 1) a (by omega) (by omega) n (t - 1) 0 (by omega) (by omega) (by omega) (fun lv hlv => ax_loc hlv (fin0 _ (fun _ => rfl) (by have := mAhead_le M s (k + 1) (t - 1) n; omega))) hk)
            · exact NO hk _ rfl
  refine ax_lconst (v := 0) dX12_middle_0 (by decide) ?_
  refine ax_lstore (lv' := [(5, _), (0, _), (1, _), (2, _), (3, _), (4, _)]) dX12_middle_1 (by decide) rfl ?_
  refine ax_iload_n (i := 2) dX12_middle_3 rfl rfl ?_
  refine ax_iconst (v := nI 1) dX12_middle_4 (by decide) ?_
  refine ax_isubN dX12_middle_5 (by omega) ?_
  refine ax_istore (lv' := [(7, _), (5, _), (0, _), (1, _), (2, _), (3, _), (4, _)]) dX12_middle_6 (by decide) rfl ?_
  exact ax_loc rfl (OUT n (t - 1) 0 (by omega) (by omega) rfl)
