theorem mI.reachK {M : aM} (h : mI M) (k : Nat) : mI (mReachK M k) := h.qF (by decide)
theorem mReach0_inv {M : aM} (h : mI M) (fr n : Nat) : mI (mIter (fun r M => pA M 75 r (if r = fr then 1 else 0)) n M) ∧ ∀ k, mS (mIter (fun r M => pA M 75 r (if r = fr then 1 else 0)) n M) k = mS M k :=
  mIter_inv (fun N => mI N ∧ ∀ k, mS N k = mS M k) ⟨h, fun _ => rfl⟩ (fun j a _ q => ⟨q.1.qF (by decide), q.2⟩)
theorem mReachI_inv {M : aM} (h : mI M) (n : Nat) : mI (mIter (fun k M => mReachK M k) n M) ∧ ∀ k, mS (mIter (fun k M => mReachK M k) n M) k = mS M k :=
  mIter_inv (fun N => mI N ∧ ∀ k, mS N k = mS M k) ⟨h, fun _ => rfl⟩ (fun j a _ q => ⟨q.1.reachK j, q.2⟩)
theorem mReachO_inv {M : aM} (h : mI M) (n : Nat) : mI (mIter (fun _ M => mIter (fun k M => mReachK M k) (mN M 21) M) n M) ∧ ∀ k, mS (mIter (fun _ M => mIter (fun k M => mReachK M k) (mN M 21) M) n M) k = mS M k :=
  mIter_inv (fun N => mI N ∧ ∀ k, mS N k = mS M k) ⟨h, fun _ => rfl⟩ (fun j a _ q => ⟨(mReachI_inv q.1 _).1, fun k => ((mReachI_inv q.1 _).2 k).trans (q.2 k)⟩)
theorem mReach_bit {M : aM} (fr : Nat) : ∀ n, ∀ j, j < n → mA (mIter (fun r M => pA M 75 r (if r = fr then 1 else 0)) n M) 75 j = 0 ∨ mA (mIter (fun r M => pA M 75 r (if r = fr then 1 else 0)) n M) 75 j = 1
  | 0, j, hj => absurd hj (Nat.not_lt_zero j)
  | n + 1, j, hj => by
    show mA (pA (mIter (fun r M => pA M 75 r (if r = fr then 1 else 0)) n M) 75 n (if n = fr then 1 else 0)) 75 j = 0 ∨ mA (pA (mIter (fun r M => pA M 75 r (if r = fr then 1 else 0)) n M) 75 n (if n = fr then 1 else 0)) 75 j = 1
    rw [mA_pA]
    by_cases c : 75 = 75 ∧ j = n
    · rw [if_pos c]
      by_cases c2 : n = fr
      · rw [if_pos c2]; exact Or.inr rfl
      · rw [if_neg c2]; exact Or.inl rfl
    · rw [if_neg c]
      exact mReach_bit fr n j (by have : ¬ j = n := fun z => c ⟨rfl, z⟩; omega)
theorem bit_reachK {M : aM} (k : Nat) {j : Nat} (h : mA M 75 j = 0 ∨ mA M 75 j = 1) : mA (mReachK M k) 75 j = 0 ∨ mA (mReachK M k) 75 j = 1 := by
  unfold mReachK
  rw [mA_pA]
  by_cases c : 75 = 75 ∧ j = mE M 22 k
  · rw [if_pos c]
    by_cases c2 : ¬ mA M 75 (mE M 22 k) = 0 ∨ ¬ mA M 75 (mE M 23 k) = 0
    · rw [if_pos c2]; exact Or.inr rfl
    · rw [if_neg c2]; exact Or.inl rfl
  · rw [if_neg c]; exact h
theorem bit_O {M : aM} {j : Nat} (n : Nat) (h : mA M 75 j = 0 ∨ mA M 75 j = 1) : mA (mIter (fun _ M => mIter (fun k M => mReachK M k) (mN M 21) M) n M) 75 j = 0 ∨ mA (mIter (fun _ M => mIter (fun k M => mReachK M k) (mN M 21) M) n M) 75 j = 1 :=
  mIter_inv (fun N => mA N 75 j = 0 ∨ mA N 75 j = 1) h (fun _ a _ q => mIter_inv (fun N => mA N 75 j = 0 ∨ mA N 75 j = 1) q (fun k b _ q2 => bit_reachK k q2))
theorem narB {v : Int32} (h : v = 0 ∨ v = 1) : narrow FieldType.boolean (Value.int v) = Value.int v := by rcases h with e | e <;> (rw [e]; rfl)

set_option maxHeartbeats 4000000 in
set_option maxRecDepth 100000 in
theorem t_holdsAll {b : Bool} {E : awE} {S : awS} {M : aM} {Q : Option Value → awS → Nat → Nat → Prop} (hm : mOk S) {fr to : Nat} (hI : mI M) (hf : fr < 16) (ht : to < 16) (h : Q (some (.int (mA (mHoldsAll M fr) 75 to))) (putM S (mHoldsAll M fr)) 0 0) : awT b E m_X12_holdsAll [.ref (nm 13 0), .int (nI fr), .int (nI to)] (putM S M) Q := by
  refine awT.of (by decide) (by decide) (Nat.le_of_ble_eq_true rfl) ?_
  have hI1 := (mReach0_inv hI fr 16).1
  have h : Q (some (.int (mA (mIter (fun _ M => mIter (fun k M => mReachK M k) (mN M 21) M) 16 (mIter (fun r M => pA M 75 r (if r = fr then 1 else 0)) 16 M)) 75 to))) (putM S (mIter (fun _ M => mIter (fun k M => mReachK M k) (mN M 21) M) 16 (mIter (fun r M => pA M 75 r (if r = fr then 1 else 0)) 16 M))) 0 0 := h
  have hnr := narB (bit_O (j := to) 16 (mReach_bit (M := M) fr 16 to ht))
  have L2 : ∀ (m j : Nat), j + m = 16 → awX b E m_X12_holdsAll 32 [(3, .int (nI j)), (0, .ref (nm 13 0)), (1, .int (nI fr)), (2, .int (nI to))] [] (putM S (mIter (fun _ M => mIter (fun k M => mReachK M k) (mN M 21) M) j (mIter (fun r M => pA M 75 r (if r = fr then 1 else 0)) 16 M))) 0 0 Q := by
    generalize hM1 : mIter (fun r M => pA M 75 r (if r = fr then 1 else 0)) 16 M = M1 at hI1 h hnr ⊢
    have L2 : ∀ (m j : Nat), j + m = 16 → awX b E m_X12_holdsAll 32 [(3, .int (nI j)), (0, .ref (nm 13 0)), (1, .int (nI fr)), (2, .int (nI to))] [] (putM S (mIter (fun _ M => mIter (fun k M => mReachK M k) (mN M 21) M) j M1)) 0 0 Q := by
      intro m
      induction m with
      | zero =>
        intro j hm1 
        refine ax_iload_n (i := 3) dX12_holdsAll_32 rfl rfl ?_
        refine ax_bipush (v := 16) dX12_holdsAll_33 (by decide) ?_
        refine ax_icmp_ge (tgt := 109) dX12_holdsAll_35 (by decide) (fun c_35 => ?_) (fun c_35 => ?_)
        · have hj2 : j = 16 := Nat.le_antisymm (by omega) (ge_of_c (b := 16) rfl c_35 (by decide))
          subst hj2
          refine ax_aload_n (i := 0) dX12_holdsAll_109 rfl rfl rfl ?_
          refine ax_mR hm dX12_holdsAll_110 fl_X12_204 rfl (by decide) ?_
          refine ax_iload_n (i := 2) dX12_holdsAll_113 rfl rfl ?_
          refine ax_mZN (N := 16) hm dX12_holdsAll_114 rfl rfl (by decide) (by omega) ?_
          refine ax_iret dX12_holdsAll_115 rfl hnr ?_
          exact h
        · exact absurd (lt_of_c (b := 16) rfl c_35 (by omega)) (by omega)
      | succ m ih =>
        intro j hm1 
        refine ax_iload_n (i := 3) dX12_holdsAll_32 rfl rfl ?_
        refine ax_bipush (v := 16) dX12_holdsAll_33 (by decide) ?_
        refine ax_icmp_ge (tgt := 109) dX12_holdsAll_35 (by decide) (fun c_35 => ?_) (fun c_35 => ?_)
        · exact absurd (ge_of_c (b := 16) rfl c_35 (by decide)) (by omega)
        · have hj2 : j < 16 := lt_of_c (b := 16) rfl c_35 (by omega)
          have hPN := (mReachO_inv hI1 j).1
          have hSN := (mReachO_inv hI1 j).2
          have NX : awX b E m_X12_holdsAll 103 [(3, .int (nI j)), (0, .ref (nm 13 0)), (1, .int (nI fr)), (2, .int (nI to))] [] (putM S (mIter (fun _ M => mIter (fun k M => mReachK M k) (mN M 21) M) (j + 1) M1)) 0 0 Q := by
            refine ax_iinc (v := _ + 1) (lv' := [(3, _), (0, .ref (nm 13 0)), (1, _), (2, _)]) dX12_holdsAll_103 rfl rfl (by decide) rfl ?_
            refine ax_goto (tgt := 32) dX12_holdsAll_106 (by decide) ?_
            rw [nI_1]
            exact ax_loc rfl (ih (j + 1) (by omega))
          have NX : awX b E m_X12_holdsAll 103 [(3, .int (nI j)), (0, .ref (nm 13 0)), (1, .int (nI fr)), (2, .int (nI to))] [] (putM S (mIter (fun k M => mReachK M k) (mN (mIter (fun _ M => mIter (fun k M => mReachK M k) (mN M 21) M) j M1) 21) (mIter (fun _ M => mIter (fun k M => mReachK M k) (mN M 21) M) j M1))) 0 0 Q := NX
          generalize hN : mIter (fun _ M => mIter (fun k M => mReachK M k) (mN M 21) M) j M1 = N at hPN hSN NX ⊢
          have hhb : mN N 21 ≤ 40 := mS_b hPN (by decide)
          have en : ∀ k, mS (mIter (fun k M => mReachK M k) k N) 21 = nI (mN N 21) := fun k => ((mReachI_inv hPN k).2 _).trans (mS_nI hPN (b := 40) (by decide))
          have IN : ∀ (m k : Nat), k + m = mN N 21 → awX b E m_X12_holdsAll 41 [(4, .int (nI k)), (3, .int (nI j)), (0, .ref (nm 13 0)), (1, .int (nI fr)), (2, .int (nI to))] [] (putM S (mIter (fun k M => mReachK M k) k N)) 0 0 Q := by
            intro m
            induction m with
            | zero =>
              intro k hm1 
              refine ax_iload dX12_holdsAll_41 rfl ?_
              refine ax_aload_n (i := 0) dX12_holdsAll_43 rfl rfl rfl ?_
              refine ax_mS dX12_holdsAll_44 fl_X12_265 rfl ?_
              refine ax_icmp_ge (tgt := 103) dX12_holdsAll_47 (by decide) (fun c_47 => ?_) (fun c_47 => ?_)
              · have hk2 : k = mN N 21 := Nat.le_antisymm (by omega) (ge_of_n (en k) c_47 (by omega))
                subst hk2
                exact ax_loc rfl NX
              · exact absurd (lt_of_n (en k) c_47 (by omega)) (by omega)
            | succ m ih =>
              intro k hm1 
              refine ax_iload dX12_holdsAll_41 rfl ?_
              refine ax_aload_n (i := 0) dX12_holdsAll_43 rfl rfl rfl ?_
              refine ax_mS dX12_holdsAll_44 fl_X12_265 rfl ?_
              refine ax_icmp_ge (tgt := 103) dX12_holdsAll_47 (by decide) (fun c_47 => ?_) (fun c_47 => ?_)
              · exact absurd (ge_of_n (en k) c_47 (by omega)) (by omega)
              · have hk2 : k < mN N 21 := lt_of_n (en k) c_47 (by omega)
                have hP := (mReachI_inv hPN k).1
                generalize hNP : mIter (fun k M => mReachK M k) k N = P at hP ⊢
                refine ax_aload_n (i := 0) dX12_holdsAll_50 rfl rfl rfl ?_
                refine ax_mR hm dX12_holdsAll_51 fl_X12_204 rfl (by decide) ?_
                refine ax_aload_n (i := 0) dX12_holdsAll_54 rfl rfl rfl ?_
                refine ax_mR hm dX12_holdsAll_55 fl_X12_65 rfl (by decide) ?_
                refine ax_iload dX12_holdsAll_58 rfl ?_
                refine ax_mIN (N := 40) hm dX12_holdsAll_60 rfl rfl (by decide) (by omega) ?_
                refine ax_top (hP.A (k := 22) (n := 40) (b := 16) (by decide) (by omega)).1 ?_
                refine ax_aload_n (i := 0) dX12_holdsAll_61 rfl rfl rfl ?_
                refine ax_mR hm dX12_holdsAll_62 fl_X12_204 rfl (by decide) ?_
                refine ax_aload_n (i := 0) dX12_holdsAll_65 rfl rfl rfl ?_
                refine ax_mR hm dX12_holdsAll_66 fl_X12_65 rfl (by decide) ?_
                refine ax_iload dX12_holdsAll_69 rfl ?_
                refine ax_mIN (N := 40) hm dX12_holdsAll_71 rfl rfl (by decide) (by omega) ?_
                refine ax_top (hP.A (k := 22) (n := 40) (b := 16) (by decide) (by omega)).1 ?_
                refine ax_mZN (N := 16) hm dX12_holdsAll_72 rfl rfl (by decide) (hP.A (k := 22) (n := 40) (b := 16) (by decide) (by omega)).2 ?_
                refine ax_if_ne (tgt := 91) dX12_holdsAll_73 (by decide) (fun c_73 => ?_) (fun c_73 => ?_)
                · refine ax_iconst (v := 1) dX12_holdsAll_91 (by decide) ?_
                  refine ax_goto (tgt := 96) dX12_holdsAll_92 (by decide) ?_
                  refine ax_mPZN (N := 16) hm dX12_holdsAll_96 rfl rfl (by decide) (hP.A (k := 22) (n := 40) (b := 16) (by decide) (by omega)).2 rfl ?_
                  refine ax_iinc (v := _ + 1) (lv' := [(4, _), (3, _), (0, _), (1, _), (2, _)]) dX12_holdsAll_97 rfl rfl (by decide) rfl ?_
                  refine ax_mE (M2 := mIter (fun k M => mReachK M k) (k + 1) N) (by rw [show mIter (fun k M => mReachK M k) (k + 1) N = mReachK P k by rw [← hNP]; rfl]; unfold mReachK; rw [if_pos (Or.inl c_73)]) ?_
                  refine ax_goto (tgt := 41) dX12_holdsAll_100 (by decide) ?_
                  rw [nI_1]
                  exact ax_loc rfl (ih (k + 1) (by omega))
                · refine ax_aload_n (i := 0) dX12_holdsAll_76 rfl rfl rfl ?_
                  refine ax_mR hm dX12_holdsAll_77 fl_X12_204 rfl (by decide) ?_
                  refine ax_aload_n (i := 0) dX12_holdsAll_80 rfl rfl rfl ?_
                  refine ax_mR hm dX12_holdsAll_81 fl_X12_68 rfl (by decide) ?_
                  refine ax_iload dX12_holdsAll_84 rfl ?_
                  refine ax_mIN (N := 40) hm dX12_holdsAll_86 rfl rfl (by decide) (by omega) ?_
                  refine ax_top (hP.A (k := 23) (n := 40) (b := 16) (by decide) (by omega)).1 ?_
                  refine ax_mZN (N := 16) hm dX12_holdsAll_87 rfl rfl (by decide) (hP.A (k := 23) (n := 40) (b := 16) (by decide) (by omega)).2 ?_
                  refine ax_if_eq (tgt := 95) dX12_holdsAll_88 (by decide) (fun c_88 => ?_) (fun c_88 => ?_)
                  · refine ax_iconst (v := 0) dX12_holdsAll_95 (by decide) ?_
                    refine ax_mPZN (N := 16) hm dX12_holdsAll_96 rfl rfl (by decide) (hP.A (k := 22) (n := 40) (b := 16) (by decide) (by omega)).2 rfl ?_
                    refine ax_iinc (v := _ + 1) (lv' := [(4, _), (3, _), (0, _), (1, _), (2, _)]) dX12_holdsAll_97 rfl rfl (by decide) rfl ?_
                    refine ax_mE (M2 := mIter (fun k M => mReachK M k) (k + 1) N) (by rw [show mIter (fun k M => mReachK M k) (k + 1) N = mReachK P k by rw [← hNP]; rfl]; unfold mReachK; rw [if_neg (fun z => z.elim c_73 (fun w => w c_88))]) ?_
                    refine ax_goto (tgt := 41) dX12_holdsAll_100 (by decide) ?_
                    rw [nI_1]
                    exact ax_loc rfl (ih (k + 1) (by omega))
                  · refine ax_iconst (v := 1) dX12_holdsAll_91 (by decide) ?_
                    refine ax_goto (tgt := 96) dX12_holdsAll_92 (by decide) ?_
                    refine ax_mPZN (N := 16) hm dX12_holdsAll_96 rfl rfl (by decide) (hP.A (k := 22) (n := 40) (b := 16) (by decide) (by omega)).2 rfl ?_
                    refine ax_iinc (v := _ + 1) (lv' := [(4, _), (3, _), (0, _), (1, _), (2, _)]) dX12_holdsAll_97 rfl rfl (by decide) rfl ?_
                    refine ax_mE (M2 := mIter (fun k M => mReachK M k) (k + 1) N) (by rw [show mIter (fun k M => mReachK M k) (k + 1) N = mReachK P k by rw [← hNP]; rfl]; unfold mReachK; rw [if_pos (Or.inr c_88)]) ?_
                    refine ax_goto (tgt := 41) dX12_holdsAll_100 (by decide) ?_
                    rw [nI_1]
                    exact ax_loc rfl (ih (k + 1) (by omega))
          refine ax_iconst (v := nI 0) dX12_holdsAll_38 (by decide) ?_
          refine ax_istore (lv' := [(4, _), (3, _), (0, _), (1, _), (2, _)]) dX12_holdsAll_39 (by decide) rfl ?_
          exact ax_loc rfl (IN (mN N 21) 0 (by omega))
    exact L2
  have L1 : ∀ (m k : Nat), k + m = 16 → awX b E m_X12_holdsAll 2 [(3, .int (nI k)), (0, .ref (nm 13 0)), (1, .int (nI fr)), (2, .int (nI to))] [] (putM S (mIter (fun r M => pA M 75 r (if r = fr then 1 else 0)) k M)) 0 0 Q := by
    intro m
    induction m with
    | zero =>
      intro k hm1 
      refine ax_iload_n (i := 3) dX12_holdsAll_2 rfl rfl ?_
      refine ax_bipush (v := 16) dX12_holdsAll_3 (by decide) ?_
      refine ax_icmp_ge (tgt := 30) dX12_holdsAll_5 (by decide) (fun c_5 => ?_) (fun c_5 => ?_)
      · have hk2 : k = 16 := Nat.le_antisymm (by omega) (ge_of_c (b := 16) rfl c_5 (by decide))
        subst hk2
        refine ax_iconst (v := nI 0) dX12_holdsAll_30 (by decide) ?_
        refine ax_istore_n (i := 3) (lv' := [(3, _), (0, _), (1, _), (2, _)]) dX12_holdsAll_31 rfl (by decide) rfl ?_
        exact ax_loc rfl (L2 16 0 (by omega))
      · exact absurd (lt_of_c (b := 16) rfl c_5 (by omega)) (by omega)
    | succ m ih =>
      intro k hm1 
      refine ax_iload_n (i := 3) dX12_holdsAll_2 rfl rfl ?_
      refine ax_bipush (v := 16) dX12_holdsAll_3 (by decide) ?_
      refine ax_icmp_ge (tgt := 30) dX12_holdsAll_5 (by decide) (fun c_5 => ?_) (fun c_5 => ?_)
      · exact absurd (ge_of_c (b := 16) rfl c_5 (by decide)) (by omega)
      · have hk2 : k < 16 := lt_of_c (b := 16) rfl c_5 (by omega)
        refine ax_aload_n (i := 0) dX12_holdsAll_8 rfl rfl rfl ?_
        refine ax_mR hm dX12_holdsAll_9 fl_X12_204 rfl (by decide) ?_
        refine ax_iload_n (i := 3) dX12_holdsAll_12 rfl rfl ?_
        refine ax_iload_n (i := 3) dX12_holdsAll_13 rfl rfl ?_
        refine ax_iload_n (i := 1) dX12_holdsAll_14 rfl rfl ?_
        refine ax_icmp_ne (tgt := 22) dX12_holdsAll_15 (by decide) (fun c_15 => ?_) (fun c_15 => ?_)
        · refine ax_iconst (v := 0) dX12_holdsAll_22 (by decide) ?_
          refine ax_mPZN (N := 16) hm dX12_holdsAll_23 rfl rfl (by decide) (by omega) rfl ?_
          refine ax_iinc (v := _ + 1) (lv' := [(3, _), (0, _), (1, _), (2, _)]) dX12_holdsAll_24 rfl rfl (by decide) rfl ?_
          refine ax_mE (M2 := mIter (fun r M => pA M 75 r (if r = fr then 1 else 0)) (k + 1) M) (by show _ = pA (mIter (fun r M => pA M 75 r (if r = fr then 1 else 0)) k M) 75 k (if k = fr then 1 else 0); rw [if_neg (fun z => c_15 (by rw [z]))]) ?_
          refine ax_goto (tgt := 2) dX12_holdsAll_27 (by decide) ?_
          rw [nI_1]
          exact ax_loc rfl (ih (k + 1) (by omega))
        · refine ax_iconst (v := 1) dX12_holdsAll_18 (by decide) ?_
          refine ax_goto (tgt := 23) dX12_holdsAll_19 (by decide) ?_
          refine ax_mPZN (N := 16) hm dX12_holdsAll_23 rfl rfl (by decide) (by omega) rfl ?_
          refine ax_iinc (v := _ + 1) (lv' := [(3, _), (0, _), (1, _), (2, _)]) dX12_holdsAll_24 rfl rfl (by decide) rfl ?_
          refine ax_mE (M2 := mIter (fun r M => pA M 75 r (if r = fr then 1 else 0)) (k + 1) M) (by show _ = pA (mIter (fun r M => pA M 75 r (if r = fr then 1 else 0)) k M) 75 k (if k = fr then 1 else 0); rw [if_pos ((nI_eq (by omega) (by omega)).mp (Classical.not_not.mp c_15))]) ?_
          refine ax_goto (tgt := 2) dX12_holdsAll_27 (by decide) ?_
          rw [nI_1]
          exact ax_loc rfl (ih (k + 1) (by omega))
  refine ax_iconst (v := nI 0) dX12_holdsAll_0 (by decide) ?_
  refine ax_istore_n (i := 3) (lv' := [(3, _), (0, _), (1, _), (2, _)]) dX12_holdsAll_1 rfl (by decide) rfl ?_
  exact ax_loc rfl (L1 16 0 (by omega))
