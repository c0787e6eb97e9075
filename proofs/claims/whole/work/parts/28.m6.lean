theorem mIter_inv {α : Type} (P : α → Prop) {f : Nat → α → α} : ∀ {n : Nat} {a : α}, P a → (∀ k a, k < n → P a → P (f k a)) → P (mIter f n a)
  | 0, _, h, _ => h
  | n + 1, _, h, hf => hf n _ (Nat.lt_succ_self n) (mIter_inv P h (fun k a hk => hf k a (by omega)))
theorem mS_nI {M : aM} (h : mI M) {k b : Nat} (hq : (k, b) ∈ mIs) : mS M k = nI (mN M k) := (h.S hq).1
theorem mS_b {M : aM} (h : mI M) {k b : Nat} (hq : (k, b) ∈ mIs) : mN M k ≤ b := (h.S hq).2

set_option maxHeartbeats 4000000 in
set_option maxRecDepth 100000 in
theorem t_held {b : Bool} {E : awE} {S : awS} {M : aM} {Q : Option Value → awS → Nat → Nat → Prop} (hm : mOk S) {x : Nat} (hI : mI M) (hx : x < 300) (h1 : mHeld M x → Q (some (.int 1)) (putM S M) 0 0) (h0 : ¬ mHeld M x → Q (some (.int 0)) (putM S M) 0 0) : awT b E m_X12_held [.ref (nm 13 0), .int (nI x)] (putM S M) Q := by
  refine awT.of (by decide) (by decide) (Nat.le_of_ble_eq_true rfl) ?_
  have ea : mS M 30 = nI (mN M 30) := mS_nI hI (b := 300) (by decide)
  have hab : mN M 30 ≤ 300 := mS_b hI (by decide)
  have eh : mS M 21 = nI (mN M 21) := mS_nI hI (b := 40) (by decide)
  have hhb : mN M 21 ≤ 40 := mS_b hI (by decide)
  have L : ∀ (m k : Nat), k + m = mN M 21 → (∀ j, j < k → ¬ (mA M 22 j = mA M 31 x ∧ ∃ y, y < mN M 30 ∧ mHeldK M x j y)) → awX b E m_X12_held 2 [(2, .int (nI k)), (0, .ref (nm 13 0)), (1, .int (nI x))] [] (putM S M) 0 0 Q := by
    intro m
    induction m with
    | zero =>
      intro k hm1 hno
      refine ax_iload_n (i := 2) dX12_held_2 rfl rfl ?_
      refine ax_aload_n (i := 0) dX12_held_3 rfl rfl rfl ?_
      refine ax_mS dX12_held_4 fl_X12_265 rfl ?_
      refine ax_icmp_ge (tgt := 147) dX12_held_7 (by decide) (fun c_7 => ?_) (fun c_7 => ?_)
      · have hk2 : k = mN M 21 := Nat.le_antisymm (by omega) (ge_of_n eh c_7 (by omega))
        subst hk2
        refine ax_iconst (v := 0) dX12_held_147 (by decide) ?_
        refine ax_iret dX12_held_148 rfl rfl ?_
        exact h0 (fun z => z.elim (fun j w => hno j w.1 w.2))
      · exact absurd (lt_of_n eh c_7 (by omega)) (by omega)
    | succ m ih =>
      intro k hm1 hno
      refine ax_iload_n (i := 2) dX12_held_2 rfl rfl ?_
      refine ax_aload_n (i := 0) dX12_held_3 rfl rfl rfl ?_
      refine ax_mS dX12_held_4 fl_X12_265 rfl ?_
      refine ax_icmp_ge (tgt := 147) dX12_held_7 (by decide) (fun c_7 => ?_) (fun c_7 => ?_)
      · exact absurd (ge_of_n eh c_7 (by omega)) (by omega)
      · have hk2 : k < mN M 21 := lt_of_n eh c_7 (by omega)
        have NX : ¬ (mA M 22 k = mA M 31 x ∧ ∃ y, y < mN M 30 ∧ mHeldK M x k y) → awX b E m_X12_held 141 [(2, .int (nI k)), (0, .ref (nm 13 0)), (1, .int (nI x))] [] (putM S M) 0 0 Q := by
          intro hn
          refine ax_iinc (v := _ + 1) (lv' := [(2, _), (0, .ref (nm 13 0)), (1, _)]) dX12_held_141 rfl rfl (by decide) rfl ?_
          refine ax_goto (tgt := 2) dX12_held_144 (by decide) ?_
          rw [nI_1]
          exact ax_loc rfl (ih (k + 1) (by omega) (fun j hj => (Nat.lt_succ_iff_lt_or_eq.mp hj).elim (hno j) (fun z => by rw [z]; exact hn)))
        have IN : ∀ (m y : Nat), y + m = mN M 30 → (∀ j, j < y → ¬ mHeldK M x k j) → awX b E m_X12_held 12 [(3, .int (nI y)), (2, .int (nI k)), (0, .ref (nm 13 0)), (1, .int (nI x))] [] (putM S M) 0 0 Q := by
          intro m
          induction m with
          | zero =>
            intro y hm1 hno
            refine ax_iload_n (i := 3) dX12_held_12 rfl rfl ?_
            refine ax_aload_n (i := 0) dX12_held_13 rfl rfl rfl ?_
            refine ax_mS dX12_held_14 fl_X12_284 rfl ?_
            refine ax_icmp_ge (tgt := 141) dX12_held_17 (by decide) (fun c_17 => ?_) (fun c_17 => ?_)
            · have hy2 : y = mN M 30 := Nat.le_antisymm (by omega) (ge_of_n ea c_17 (by omega))
              subst hy2
              exact ax_loc rfl (NX (fun z => z.2.elim (fun j w => hno j w.1 w.2)))
            · exact absurd (lt_of_n ea c_17 (by omega)) (by omega)
          | succ m ih =>
            intro y hm1 hno
            refine ax_iload_n (i := 3) dX12_held_12 rfl rfl ?_
            refine ax_aload_n (i := 0) dX12_held_13 rfl rfl rfl ?_
            refine ax_mS dX12_held_14 fl_X12_284 rfl ?_
            refine ax_icmp_ge (tgt := 141) dX12_held_17 (by decide) (fun c_17 => ?_) (fun c_17 => ?_)
            · exact absurd (ge_of_n ea c_17 (by omega)) (by omega)
            · have hy2 : y < mN M 30 := lt_of_n ea c_17 (by omega)
              refine ax_aload_n (i := 0) dX12_held_20 rfl rfl rfl ?_
              refine ax_mR hm dX12_held_21 fl_X12_65 rfl (by decide) ?_
              refine ax_iload_n (i := 2) dX12_held_24 rfl rfl ?_
              refine ax_mIN (N := 40) hm dX12_held_25 rfl rfl (by decide) (by omega) ?_
              refine ax_aload_n (i := 0) dX12_held_26 rfl rfl rfl ?_
              refine ax_mR hm dX12_held_27 fl_X12_86 rfl (by decide) ?_
              refine ax_iload_n (i := 1) dX12_held_30 rfl rfl ?_
              refine ax_mIN (N := 300) hm dX12_held_31 rfl rfl (by decide) (by omega) ?_
              refine ax_icmp_ne (tgt := 141) dX12_held_32 (by decide) (fun c_32 => ?_) (fun c_32 => ?_)
              · exact ax_loc rfl (NX (fun z => c_32 z.1))
              · refine ax_aload_n (i := 0) dX12_held_35 rfl rfl rfl ?_
                refine ax_mR hm dX12_held_36 fl_X12_71 rfl (by decide) ?_
                refine ax_iload_n (i := 2) dX12_held_39 rfl rfl ?_
                refine ax_mIN (N := 40) hm dX12_held_40 rfl rfl (by decide) (by omega) ?_
                refine ax_if_eq (tgt := 97) dX12_held_41 (by decide) (fun c_41 => ?_) (fun c_41 => ?_)
                · refine ax_iconst (v := 1) dX12_held_97 (by decide) ?_
                  refine ax_goto (tgt := 102) dX12_held_98 (by decide) ?_
                  refine ax_istore (lv' := [(4, _), (3, _), (2, _), (0, _), (1, _)]) dX12_held_102 (by decide) rfl ?_
                  refine ax_aload_n (i := 0) dX12_held_104 rfl rfl rfl ?_
                  refine ax_mR hm dX12_held_105 fl_X12_95 rfl (by decide) ?_
                  refine ax_iload_n (i := 3) dX12_held_108 rfl rfl ?_
                  refine ax_mIN (N := 300) hm dX12_held_109 rfl rfl (by decide) (by omega) ?_
                  refine ax_if_ne (tgt := 135) dX12_held_110 (by decide) (fun c_110 => ?_) (fun c_110 => ?_)
                  · refine ax_iinc (v := _ + 1) (lv' := [(3, _), (4, _), (2, _), (0, _), (1, _)]) dX12_held_135 rfl rfl (by decide) rfl ?_
                    refine ax_goto (tgt := 12) dX12_held_138 (by decide) ?_
                    rw [nI_1]
                    exact ax_loc rfl (ih (y + 1) (by omega) (fun j hj => (Nat.lt_succ_iff_lt_or_eq.mp hj).elim (hno j) (fun z => by rw [z]; exact fun z => c_110 z.1)))
                  · refine ax_aload_n (i := 0) dX12_held_113 rfl rfl rfl ?_
                    refine ax_mR hm dX12_held_114 fl_X12_86 rfl (by decide) ?_
                    refine ax_iload_n (i := 3) dX12_held_117 rfl rfl ?_
                    refine ax_mIN (N := 300) hm dX12_held_118 rfl rfl (by decide) (by omega) ?_
                    refine ax_aload_n (i := 0) dX12_held_119 rfl rfl rfl ?_
                    refine ax_mR hm dX12_held_120 fl_X12_68 rfl (by decide) ?_
                    refine ax_iload_n (i := 2) dX12_held_123 rfl rfl ?_
                    refine ax_mIN (N := 40) hm dX12_held_124 rfl rfl (by decide) (by omega) ?_
                    refine ax_icmp_ne (tgt := 135) dX12_held_125 (by decide) (fun c_125 => ?_) (fun c_125 => ?_)
                    · refine ax_iinc (v := _ + 1) (lv' := [(3, _), (4, _), (2, _), (0, _), (1, _)]) dX12_held_135 rfl rfl (by decide) rfl ?_
                      refine ax_goto (tgt := 12) dX12_held_138 (by decide) ?_
                      rw [nI_1]
                      exact ax_loc rfl (ih (y + 1) (by omega) (fun j hj => (Nat.lt_succ_iff_lt_or_eq.mp hj).elim (hno j) (fun z => by rw [z]; exact fun z => c_125 z.2.1)))
                    · refine ax_iload dX12_held_128 rfl ?_
                      refine ax_if_eq (tgt := 135) dX12_held_130 (by decide) (fun z => absurd z (by decide)) (fun _ => ?_)
                      refine ax_iconst (v := 1) dX12_held_133 (by decide) ?_
                      refine ax_iret dX12_held_134 rfl rfl ?_
                      exact h1 ⟨k, hk2, Classical.not_not.mp c_32, y, hy2, Classical.not_not.mp c_110, Classical.not_not.mp c_125, Or.inl c_41⟩
                · refine ax_aload_n (i := 0) dX12_held_44 rfl rfl rfl ?_
                  refine ax_mR hm dX12_held_45 fl_X12_71 rfl (by decide) ?_
                  refine ax_iload_n (i := 2) dX12_held_48 rfl rfl ?_
                  refine ax_mIN (N := 40) hm dX12_held_49 rfl rfl (by decide) (by omega) ?_
                  refine ax_iconst (v := 1) dX12_held_50 (by decide) ?_
                  refine ax_icmp_ne (tgt := 82) dX12_held_51 (by decide) (fun c_51 => ?_) (fun c_51 => ?_)
                  · refine ax_aload_n (i := 0) dX12_held_82 rfl rfl rfl ?_
                    refine ax_mR hm dX12_held_83 fl_X12_89 rfl (by decide) ?_
                    refine ax_iload_n (i := 3) dX12_held_86 rfl rfl ?_
                    refine ax_mIN (N := 300) hm dX12_held_87 rfl rfl (by decide) (by omega) ?_
                    refine ax_aload_n (i := 0) dX12_held_88 rfl rfl rfl ?_
                    refine ax_mR hm dX12_held_89 fl_X12_89 rfl (by decide) ?_
                    refine ax_iload_n (i := 1) dX12_held_92 rfl rfl ?_
                    refine ax_mIN (N := 300) hm dX12_held_93 rfl rfl (by decide) (by omega) ?_
                    refine ax_icmp_ne (tgt := 101) dX12_held_94 (by decide) (fun c_94 => ?_) (fun c_94 => ?_)
                    · refine ax_iconst (v := 0) dX12_held_101 (by decide) ?_
                      refine ax_istore (lv' := [(4, _), (3, _), (2, _), (0, _), (1, _)]) dX12_held_102 (by decide) rfl ?_
                      refine ax_aload_n (i := 0) dX12_held_104 rfl rfl rfl ?_
                      refine ax_mR hm dX12_held_105 fl_X12_95 rfl (by decide) ?_
                      refine ax_iload_n (i := 3) dX12_held_108 rfl rfl ?_
                      refine ax_mIN (N := 300) hm dX12_held_109 rfl rfl (by decide) (by omega) ?_
                      refine ax_if_ne (tgt := 135) dX12_held_110 (by decide) (fun c_110 => ?_) (fun c_110 => ?_)
                      · refine ax_iinc (v := _ + 1) (lv' := [(3, _), (4, _), (2, _), (0, _), (1, _)]) dX12_held_135 rfl rfl (by decide) rfl ?_
                        refine ax_goto (tgt := 12) dX12_held_138 (by decide) ?_
                        rw [nI_1]
                        exact ax_loc rfl (ih (y + 1) (by omega) (fun j hj => (Nat.lt_succ_iff_lt_or_eq.mp hj).elim (hno j) (fun z => by rw [z]; exact fun z => c_110 z.1)))
                      · refine ax_aload_n (i := 0) dX12_held_113 rfl rfl rfl ?_
                        refine ax_mR hm dX12_held_114 fl_X12_86 rfl (by decide) ?_
                        refine ax_iload_n (i := 3) dX12_held_117 rfl rfl ?_
                        refine ax_mIN (N := 300) hm dX12_held_118 rfl rfl (by decide) (by omega) ?_
                        refine ax_aload_n (i := 0) dX12_held_119 rfl rfl rfl ?_
                        refine ax_mR hm dX12_held_120 fl_X12_68 rfl (by decide) ?_
                        refine ax_iload_n (i := 2) dX12_held_123 rfl rfl ?_
                        refine ax_mIN (N := 40) hm dX12_held_124 rfl rfl (by decide) (by omega) ?_
                        refine ax_icmp_ne (tgt := 135) dX12_held_125 (by decide) (fun c_125 => ?_) (fun c_125 => ?_)
                        · refine ax_iinc (v := _ + 1) (lv' := [(3, _), (4, _), (2, _), (0, _), (1, _)]) dX12_held_135 rfl rfl (by decide) rfl ?_
                          refine ax_goto (tgt := 12) dX12_held_138 (by decide) ?_
                          rw [nI_1]
                          exact ax_loc rfl (ih (y + 1) (by omega) (fun j hj => (Nat.lt_succ_iff_lt_or_eq.mp hj).elim (hno j) (fun z => by rw [z]; exact fun z => c_125 z.2.1)))
                        · refine ax_iload dX12_held_128 rfl ?_
                          refine ax_if_eq (tgt := 135) dX12_held_130 (by decide) (fun _ => ?_) (fun z => absurd (by decide) z)
                          refine ax_iinc (v := _ + 1) (lv' := [(3, _), (4, _), (2, _), (0, _), (1, _)]) dX12_held_135 rfl rfl (by decide) rfl ?_
                          refine ax_goto (tgt := 12) dX12_held_138 (by decide) ?_
                          rw [nI_1]
                          exact ax_loc rfl (ih (y + 1) (by omega) (fun j hj => (Nat.lt_succ_iff_lt_or_eq.mp hj).elim (hno j) (fun z => by rw [z]; exact fun z => (fun q => q.elim c_41 (fun q => q.elim (fun w => c_51 w.1) (fun w => c_94 w.2.2))) z.2.2)))
                    · refine ax_iconst (v := 1) dX12_held_97 (by decide) ?_
                      refine ax_goto (tgt := 102) dX12_held_98 (by decide) ?_
                      refine ax_istore (lv' := [(4, _), (3, _), (2, _), (0, _), (1, _)]) dX12_held_102 (by decide) rfl ?_
                      refine ax_aload_n (i := 0) dX12_held_104 rfl rfl rfl ?_
                      refine ax_mR hm dX12_held_105 fl_X12_95 rfl (by decide) ?_
                      refine ax_iload_n (i := 3) dX12_held_108 rfl rfl ?_
                      refine ax_mIN (N := 300) hm dX12_held_109 rfl rfl (by decide) (by omega) ?_
                      refine ax_if_ne (tgt := 135) dX12_held_110 (by decide) (fun c_110 => ?_) (fun c_110 => ?_)
                      · refine ax_iinc (v := _ + 1) (lv' := [(3, _), (4, _), (2, _), (0, _), (1, _)]) dX12_held_135 rfl rfl (by decide) rfl ?_
                        refine ax_goto (tgt := 12) dX12_held_138 (by decide) ?_
                        rw [nI_1]
                        exact ax_loc rfl (ih (y + 1) (by omega) (fun j hj => (Nat.lt_succ_iff_lt_or_eq.mp hj).elim (hno j) (fun z => by rw [z]; exact fun z => c_110 z.1)))
                      · refine ax_aload_n (i := 0) dX12_held_113 rfl rfl rfl ?_
                        refine ax_mR hm dX12_held_114 fl_X12_86 rfl (by decide) ?_
                        refine ax_iload_n (i := 3) dX12_held_117 rfl rfl ?_
                        refine ax_mIN (N := 300) hm dX12_held_118 rfl rfl (by decide) (by omega) ?_
                        refine ax_aload_n (i := 0) dX12_held_119 rfl rfl rfl ?_
                        refine ax_mR hm dX12_held_120 fl_X12_68 rfl (by decide) ?_
                        refine ax_iload_n (i := 2) dX12_held_123 rfl rfl ?_
                        refine ax_mIN (N := 40) hm dX12_held_124 rfl rfl (by decide) (by omega) ?_
                        refine ax_icmp_ne (tgt := 135) dX12_held_125 (by decide) (fun c_125 => ?_) (fun c_125 => ?_)
                        · refine ax_iinc (v := _ + 1) (lv' := [(3, _), (4, _), (2, _), (0, _), (1, _)]) dX12_held_135 rfl rfl (by decide) rfl ?_
                          refine ax_goto (tgt := 12) dX12_held_138 (by decide) ?_
                          rw [nI_1]
                          exact ax_loc rfl (ih (y + 1) (by omega) (fun j hj => (Nat.lt_succ_iff_lt_or_eq.mp hj).elim (hno j) (fun z => by rw [z]; exact fun z => c_125 z.2.1)))
                        · refine ax_iload dX12_held_128 rfl ?_
                          refine ax_if_eq (tgt := 135) dX12_held_130 (by decide) (fun z => absurd z (by decide)) (fun _ => ?_)
                          refine ax_iconst (v := 1) dX12_held_133 (by decide) ?_
                          refine ax_iret dX12_held_134 rfl rfl ?_
                          exact h1 ⟨k, hk2, Classical.not_not.mp c_32, y, hy2, Classical.not_not.mp c_110, Classical.not_not.mp c_125, Or.inr (Or.inr ⟨c_41, c_51, Classical.not_not.mp c_94⟩)⟩
                  · refine ax_aload_n (i := 0) dX12_held_54 rfl rfl rfl ?_
                    refine ax_mR hm dX12_held_55 fl_X12_7 rfl (by decide) ?_
                    refine ax_aload_n (i := 0) dX12_held_58 rfl rfl rfl ?_
                    refine ax_mR hm dX12_held_59 fl_X12_89 rfl (by decide) ?_
                    refine ax_iload_n (i := 3) dX12_held_62 rfl rfl ?_
                    refine ax_mIN (N := 300) hm dX12_held_63 rfl rfl (by decide) (by omega) ?_
                    refine ax_top (hI.A (k := 32) (n := 300) (b := 16) (by decide) (by omega)).1 ?_
                    refine ax_mIN (N := 16) hm dX12_held_64 rfl rfl (by decide) (hI.A (k := 32) (n := 300) (b := 16) (by decide) (by omega)).2 ?_
                    refine ax_aload_n (i := 0) dX12_held_65 rfl rfl rfl ?_
                    refine ax_mR hm dX12_held_66 fl_X12_7 rfl (by decide) ?_
                    refine ax_aload_n (i := 0) dX12_held_69 rfl rfl rfl ?_
                    refine ax_mR hm dX12_held_70 fl_X12_89 rfl (by decide) ?_
                    refine ax_iload_n (i := 1) dX12_held_73 rfl rfl ?_
                    refine ax_mIN (N := 300) hm dX12_held_74 rfl rfl (by decide) (by omega) ?_
                    refine ax_top (hI.A (k := 32) (n := 300) (b := 16) (by decide) (by omega)).1 ?_
                    refine ax_mIN (N := 16) hm dX12_held_75 rfl rfl (by decide) (hI.A (k := 32) (n := 300) (b := 16) (by decide) (by omega)).2 ?_
                    refine ax_icmp_ne (tgt := 101) dX12_held_76 (by decide) (fun c_76 => ?_) (fun c_76 => ?_)
                    · refine ax_iconst (v := 0) dX12_held_101 (by decide) ?_
                      refine ax_istore (lv' := [(4, _), (3, _), (2, _), (0, _), (1, _)]) dX12_held_102 (by decide) rfl ?_
                      refine ax_aload_n (i := 0) dX12_held_104 rfl rfl rfl ?_
                      refine ax_mR hm dX12_held_105 fl_X12_95 rfl (by decide) ?_
                      refine ax_iload_n (i := 3) dX12_held_108 rfl rfl ?_
                      refine ax_mIN (N := 300) hm dX12_held_109 rfl rfl (by decide) (by omega) ?_
                      refine ax_if_ne (tgt := 135) dX12_held_110 (by decide) (fun c_110 => ?_) (fun c_110 => ?_)
                      · refine ax_iinc (v := _ + 1) (lv' := [(3, _), (4, _), (2, _), (0, _), (1, _)]) dX12_held_135 rfl rfl (by decide) rfl ?_
                        refine ax_goto (tgt := 12) dX12_held_138 (by decide) ?_
                        rw [nI_1]
                        exact ax_loc rfl (ih (y + 1) (by omega) (fun j hj => (Nat.lt_succ_iff_lt_or_eq.mp hj).elim (hno j) (fun z => by rw [z]; exact fun z => c_110 z.1)))
                      · refine ax_aload_n (i := 0) dX12_held_113 rfl rfl rfl ?_
                        refine ax_mR hm dX12_held_114 fl_X12_86 rfl (by decide) ?_
                        refine ax_iload_n (i := 3) dX12_held_117 rfl rfl ?_
                        refine ax_mIN (N := 300) hm dX12_held_118 rfl rfl (by decide) (by omega) ?_
                        refine ax_aload_n (i := 0) dX12_held_119 rfl rfl rfl ?_
                        refine ax_mR hm dX12_held_120 fl_X12_68 rfl (by decide) ?_
                        refine ax_iload_n (i := 2) dX12_held_123 rfl rfl ?_
                        refine ax_mIN (N := 40) hm dX12_held_124 rfl rfl (by decide) (by omega) ?_
                        refine ax_icmp_ne (tgt := 135) dX12_held_125 (by decide) (fun c_125 => ?_) (fun c_125 => ?_)
                        · refine ax_iinc (v := _ + 1) (lv' := [(3, _), (4, _), (2, _), (0, _), (1, _)]) dX12_held_135 rfl rfl (by decide) rfl ?_
                          refine ax_goto (tgt := 12) dX12_held_138 (by decide) ?_
                          rw [nI_1]
                          exact ax_loc rfl (ih (y + 1) (by omega) (fun j hj => (Nat.lt_succ_iff_lt_or_eq.mp hj).elim (hno j) (fun z => by rw [z]; exact fun z => c_125 z.2.1)))
                        · refine ax_iload dX12_held_128 rfl ?_
                          refine ax_if_eq (tgt := 135) dX12_held_130 (by decide) (fun _ => ?_) (fun z => absurd (by decide) z)
                          refine ax_iinc (v := _ + 1) (lv' := [(3, _), (4, _), (2, _), (0, _), (1, _)]) dX12_held_135 rfl rfl (by decide) rfl ?_
                          refine ax_goto (tgt := 12) dX12_held_138 (by decide) ?_
                          rw [nI_1]
                          exact ax_loc rfl (ih (y + 1) (by omega) (fun j hj => (Nat.lt_succ_iff_lt_or_eq.mp hj).elim (hno j) (fun z => by rw [z]; exact fun z => (fun q => q.elim c_41 (fun q => q.elim (fun w => c_76 w.2) (fun w => w.2.1 (Classical.not_not.mp c_51)))) z.2.2)))
                    · refine ax_goto (tgt := 97) dX12_held_79 (by decide) ?_
                      refine ax_iconst (v := 1) dX12_held_97 (by decide) ?_
                      refine ax_goto (tgt := 102) dX12_held_98 (by decide) ?_
                      refine ax_istore (lv' := [(4, _), (3, _), (2, _), (0, _), (1, _)]) dX12_held_102 (by decide) rfl ?_
                      refine ax_aload_n (i := 0) dX12_held_104 rfl rfl rfl ?_
                      refine ax_mR hm dX12_held_105 fl_X12_95 rfl (by decide) ?_
                      refine ax_iload_n (i := 3) dX12_held_108 rfl rfl ?_
                      refine ax_mIN (N := 300) hm dX12_held_109 rfl rfl (by decide) (by omega) ?_
                      refine ax_if_ne (tgt := 135) dX12_held_110 (by decide) (fun c_110 => ?_) (fun c_110 => ?_)
                      · refine ax_iinc (v := _ + 1) (lv' := [(3, _), (4, _), (2, _), (0, _), (1, _)]) dX12_held_135 rfl rfl (by decide) rfl ?_
                        refine ax_goto (tgt := 12) dX12_held_138 (by decide) ?_
                        rw [nI_1]
                        exact ax_loc rfl (ih (y + 1) (by omega) (fun j hj => (Nat.lt_succ_iff_lt_or_eq.mp hj).elim (hno j) (fun z => by rw [z]; exact fun z => c_110 z.1)))
                      · refine ax_aload_n (i := 0) dX12_held_113 rfl rfl rfl ?_
                        refine ax_mR hm dX12_held_114 fl_X12_86 rfl (by decide) ?_
                        refine ax_iload_n (i := 3) dX12_held_117 rfl rfl ?_
                        refine ax_mIN (N := 300) hm dX12_held_118 rfl rfl (by decide) (by omega) ?_
                        refine ax_aload_n (i := 0) dX12_held_119 rfl rfl rfl ?_
                        refine ax_mR hm dX12_held_120 fl_X12_68 rfl (by decide) ?_
                        refine ax_iload_n (i := 2) dX12_held_123 rfl rfl ?_
                        refine ax_mIN (N := 40) hm dX12_held_124 rfl rfl (by decide) (by omega) ?_
                        refine ax_icmp_ne (tgt := 135) dX12_held_125 (by decide) (fun c_125 => ?_) (fun c_125 => ?_)
                        · refine ax_iinc (v := _ + 1) (lv' := [(3, _), (4, _), (2, _), (0, _), (1, _)]) dX12_held_135 rfl rfl (by decide) rfl ?_
                          refine ax_goto (tgt := 12) dX12_held_138 (by decide) ?_
                          rw [nI_1]
                          exact ax_loc rfl (ih (y + 1) (by omega) (fun j hj => (Nat.lt_succ_iff_lt_or_eq.mp hj).elim (hno j) (fun z => by rw [z]; exact fun z => c_125 z.2.1)))
                        · refine ax_iload dX12_held_128 rfl ?_
                          refine ax_if_eq (tgt := 135) dX12_held_130 (by decide) (fun z => absurd z (by decide)) (fun _ => ?_)
                          refine ax_iconst (v := 1) dX12_held_133 (by decide) ?_
                          refine ax_iret dX12_held_134 rfl rfl ?_
                          exact h1 ⟨k, hk2, Classical.not_not.mp c_32, y, hy2, Classical.not_not.mp c_110, Classical.not_not.mp c_125, Or.inr (Or.inl ⟨Classical.not_not.mp c_51, Classical.not_not.mp c_76⟩)⟩
        refine ax_iconst (v := nI 0) dX12_held_10 (by decide) ?_
        refine ax_istore_n (i := 3) (lv' := [(3, _), (2, _), (0, _), (1, _)]) dX12_held_11 rfl (by decide) rfl ?_
        exact ax_loc rfl (IN (mN M 30) 0 (by omega) (fun j hj => absurd hj (Nat.not_lt_zero j)))
  refine ax_iconst (v := nI 0) dX12_held_0 (by decide) ?_
  refine ax_istore_n (i := 2) (lv' := [(2, _), (0, _), (1, _)]) dX12_held_1 rfl (by decide) rfl ?_
  exact ax_loc rfl (L (mN M 21) 0 (by omega) (fun j hj => absurd hj (Nat.not_lt_zero j)))
set_option maxHeartbeats 4000000 in
set_option maxRecDepth 100000 in
theorem t_silenced {b : Bool} {E : awE} {S : awS} {M : aM} {Q : Option Value → awS → Nat → Nat → Prop} (hm : mOk S) {x t : Nat} (hI : mI M) (hx : x < 300) (h1 : mSil M x t → Q (some (.int 1)) (putM S M) 0 0) (h0 : ¬ mSil M x t → Q (some (.int 0)) (putM S M) 0 0) : awT b E m_X12_silenced [.ref (nm 13 0), .int (nI x), .int (nI t)] (putM S M) Q := by
  refine awT.of (by decide) (by decide) (Nat.le_of_ble_eq_true rfl) ?_
  have es : mS M 25 = nI (mN M 25) := mS_nI hI (b := 20) (by decide)
  have hsb : mN M 25 ≤ 20 := mS_b hI (by decide)
  have L : ∀ (m k : Nat) (v : Int32), k + m = mN M 25 → ((v = 0 ∧ ∀ j, j < k → ¬ ((mA M 26 j < 0 ∨ mA M 26 j = mA M 3 (mE M 32 x)) ∧ (mA M 27 j < 0 ∨ mA M 27 j = mA M 31 x) ∧ mA M 28 j ≤ nI t ∧ nI t ≤ mA M 29 j)) ∨ (v = 1 ∧ ∃ j, j < k ∧ ((mA M 26 j < 0 ∨ mA M 26 j = mA M 3 (mE M 32 x)) ∧ (mA M 27 j < 0 ∨ mA M 27 j = mA M 31 x) ∧ mA M 28 j ≤ nI t ∧ nI t ≤ mA M 29 j))) → awX b E m_X12_silenced 5 [(4, .int (nI k)), (3, .int v), (0, .ref (nm 13 0)), (1, .int (nI x)), (2, .int (nI t))] [] (putM S M) 0 0 Q := by
    intro m
    induction m with
    | zero =>
      intro k v hm1 hv
      refine ax_iload dX12_silenced_5 rfl ?_
      refine ax_aload_n (i := 0) dX12_silenced_7 rfl rfl rfl ?_
      refine ax_mS dX12_silenced_8 fl_X12_279 rfl ?_
      refine ax_icmp_ge (tgt := 111) dX12_silenced_11 (by decide) (fun c_11 => ?_) (fun c_11 => ?_)
      · have hk2 : k = mN M 25 := Nat.le_antisymm (by omega) (ge_of_n es c_11 (by omega))
        subst hk2
        have hnr : narrow FieldType.boolean (Value.int v) = Value.int v := by rcases hv with q | q <;> (rw [q.1]; rfl)
        refine ax_iload_n (i := 3) dX12_silenced_111 rfl rfl ?_
        refine ax_iret dX12_silenced_112 rfl hnr ?_
        rcases hv with hv | hv
        · rw [hv.1]; exact h0 (fun z => z.elim (fun j w => hv.2 j w.1 w.2))
        · rw [hv.1]; exact h1 hv.2
      · exact absurd (lt_of_n es c_11 (by omega)) (by omega)
    | succ m ih =>
      intro k v hm1 hv
      refine ax_iload dX12_silenced_5 rfl ?_
      refine ax_aload_n (i := 0) dX12_silenced_7 rfl rfl rfl ?_
      refine ax_mS dX12_silenced_8 fl_X12_279 rfl ?_
      refine ax_icmp_ge (tgt := 111) dX12_silenced_11 (by decide) (fun c_11 => ?_) (fun c_11 => ?_)
      · exact absurd (ge_of_n es c_11 (by omega)) (by omega)
      · have hk2 : k < mN M 25 := lt_of_n es c_11 (by omega)
        refine ax_iload_n (i := 3) dX12_silenced_14 rfl rfl ?_
        refine ax_if_ne (tgt := 99) dX12_silenced_15 (by decide) (fun c_15 => ?_) (fun c_15 => ?_)
        · refine ax_iconst (v := 1) dX12_silenced_99 (by decide) ?_
          refine ax_goto (tgt := 104) dX12_silenced_100 (by decide) ?_
          refine ax_istore_n (i := 3) (lv' := [(3, _), (4, _), (0, _), (1, _), (2, _)]) dX12_silenced_104 rfl (by decide) rfl ?_
          refine ax_iinc (v := _ + 1) (lv' := [(4, _), (3, _), (0, _), (1, _), (2, _)]) dX12_silenced_105 rfl rfl (by decide) rfl ?_
          refine ax_goto (tgt := 5) dX12_silenced_108 (by decide) ?_
          rw [nI_1]
          exact ax_loc rfl (ih (k + 1) _ (by omega) (Or.inr ⟨rfl, hv.elim (fun z => absurd z.1 c_15) (fun z => z.2.elim (fun j w => ⟨j, by omega, w.2⟩))⟩))
        · refine ax_aload_n (i := 0) dX12_silenced_18 rfl rfl rfl ?_
          refine ax_mR hm dX12_silenced_19 fl_X12_74 rfl (by decide) ?_
          refine ax_iload dX12_silenced_22 rfl ?_
          refine ax_mIN (N := 20) hm dX12_silenced_24 rfl rfl (by decide) (by omega) ?_
          refine ax_if_lt (tgt := 49) dX12_silenced_25 (by decide) (fun c_25 => ?_) (fun c_25 => ?_)
          · refine ax_aload_n (i := 0) dX12_silenced_49 rfl rfl rfl ?_
            refine ax_mR hm dX12_silenced_50 fl_X12_77 rfl (by decide) ?_
            refine ax_iload dX12_silenced_53 rfl ?_
            refine ax_mIN (N := 20) hm dX12_silenced_55 rfl rfl (by decide) (by omega) ?_
            refine ax_if_lt (tgt := 75) dX12_silenced_56 (by decide) (fun c_56 => ?_) (fun c_56 => ?_)
            · refine ax_iload_n (i := 2) dX12_silenced_75 rfl rfl ?_
              refine ax_i2l dX12_silenced_76 ?_
              refine ax_aload_n (i := 0) dX12_silenced_77 rfl rfl rfl ?_
              refine ax_mR hm dX12_silenced_78 fl_X12_80 rfl (by decide) ?_
              refine ax_iload dX12_silenced_81 rfl ?_
              refine ax_mIN (N := 20) hm dX12_silenced_83 rfl rfl (by decide) (by omega) ?_
              refine ax_i2l dX12_silenced_84 ?_
              refine ax_aload_n (i := 0) dX12_silenced_85 rfl rfl rfl ?_
              refine ax_mR hm dX12_silenced_86 fl_X12_83 rfl (by decide) ?_
              refine ax_iload dX12_silenced_89 rfl ?_
              refine ax_mIN (N := 20) hm dX12_silenced_91 rfl rfl (by decide) (by omega) ?_
              refine ax_i2l dX12_silenced_92 ?_
              refine ax_invS (n := 3) (As := [_, _, _]) dX12_silenced_93 cb_X12_isIn cs_X12_242.1 cs_X12_242.2 rfl ⟨Nat.le_of_ble_eq_true rfl, Nat.le_of_ble_eq_true rfl⟩ (Nat.le_of_ble_eq_true rfl) rfl (t_isInI (lo := _) (hi := _) (fun c_93 => ?_) (fun c_93 => ?_))
              · refine ax_if_eq (tgt := 103) dX12_silenced_96 (by decide) (fun z => absurd z (by decide)) (fun _ => ?_)
                refine ax_iconst (v := 1) dX12_silenced_99 (by decide) ?_
                refine ax_goto (tgt := 104) dX12_silenced_100 (by decide) ?_
                refine ax_istore_n (i := 3) (lv' := [(3, _), (4, _), (0, _), (1, _), (2, _)]) dX12_silenced_104 rfl (by decide) rfl ?_
                refine ax_iinc (v := _ + 1) (lv' := [(4, _), (3, _), (0, _), (1, _), (2, _)]) dX12_silenced_105 rfl rfl (by decide) rfl ?_
                refine ax_goto (tgt := 5) dX12_silenced_108 (by decide) ?_
                rw [nI_1]
                exact ax_loc rfl (ih (k + 1) _ (by omega) (Or.inr ⟨rfl, k, by omega, Or.inl c_25, Or.inl c_56, c_93⟩))
              · refine ax_if_eq (tgt := 103) dX12_silenced_96 (by decide) (fun _ => ?_) (fun z => absurd (by decide) z)
                refine ax_iconst (v := 0) dX12_silenced_103 (by decide) ?_
                refine ax_istore_n (i := 3) (lv' := [(3, _), (4, _), (0, _), (1, _), (2, _)]) dX12_silenced_104 rfl (by decide) rfl ?_
                refine ax_iinc (v := _ + 1) (lv' := [(4, _), (3, _), (0, _), (1, _), (2, _)]) dX12_silenced_105 rfl rfl (by decide) rfl ?_
                refine ax_goto (tgt := 5) dX12_silenced_108 (by decide) ?_
                rw [nI_1]
                exact ax_loc rfl (ih (k + 1) _ (by omega) (Or.inl ⟨rfl, fun j hj => (Nat.lt_succ_iff_lt_or_eq.mp hj).elim (hv.elim (fun z => z.2 j) (fun z => absurd (z.1.symm.trans (Classical.not_not.mp c_15)) (by decide))) (fun z => by rw [z]; exact fun z => c_93 z.2.2)⟩))
            · refine ax_aload_n (i := 0) dX12_silenced_59 rfl rfl rfl ?_
              refine ax_mR hm dX12_silenced_60 fl_X12_77 rfl (by decide) ?_
              refine ax_iload dX12_silenced_63 rfl ?_
              refine ax_mIN (N := 20) hm dX12_silenced_65 rfl rfl (by decide) (by omega) ?_
              refine ax_aload_n (i := 0) dX12_silenced_66 rfl rfl rfl ?_
              refine ax_mR hm dX12_silenced_67 fl_X12_86 rfl (by decide) ?_
              refine ax_iload_n (i := 1) dX12_silenced_70 rfl rfl ?_
              refine ax_mIN (N := 300) hm dX12_silenced_71 rfl rfl (by decide) (by omega) ?_
              refine ax_icmp_ne (tgt := 103) dX12_silenced_72 (by decide) (fun c_72 => ?_) (fun c_72 => ?_)
              · refine ax_iconst (v := 0) dX12_silenced_103 (by decide) ?_
                refine ax_istore_n (i := 3) (lv' := [(3, _), (4, _), (0, _), (1, _), (2, _)]) dX12_silenced_104 rfl (by decide) rfl ?_
                refine ax_iinc (v := _ + 1) (lv' := [(4, _), (3, _), (0, _), (1, _), (2, _)]) dX12_silenced_105 rfl rfl (by decide) rfl ?_
                refine ax_goto (tgt := 5) dX12_silenced_108 (by decide) ?_
                rw [nI_1]
                exact ax_loc rfl (ih (k + 1) _ (by omega) (Or.inl ⟨rfl, fun j hj => (Nat.lt_succ_iff_lt_or_eq.mp hj).elim (hv.elim (fun z => z.2 j) (fun z => absurd (z.1.symm.trans (Classical.not_not.mp c_15)) (by decide))) (fun z => by rw [z]; exact fun z => z.2.1.elim c_56 c_72)⟩))
              · refine ax_iload_n (i := 2) dX12_silenced_75 rfl rfl ?_
                refine ax_i2l dX12_silenced_76 ?_
                refine ax_aload_n (i := 0) dX12_silenced_77 rfl rfl rfl ?_
                refine ax_mR hm dX12_silenced_78 fl_X12_80 rfl (by decide) ?_
                refine ax_iload dX12_silenced_81 rfl ?_
                refine ax_mIN (N := 20) hm dX12_silenced_83 rfl rfl (by decide) (by omega) ?_
                refine ax_i2l dX12_silenced_84 ?_
                refine ax_aload_n (i := 0) dX12_silenced_85 rfl rfl rfl ?_
                refine ax_mR hm dX12_silenced_86 fl_X12_83 rfl (by decide) ?_
                refine ax_iload dX12_silenced_89 rfl ?_
                refine ax_mIN (N := 20) hm dX12_silenced_91 rfl rfl (by decide) (by omega) ?_
                refine ax_i2l dX12_silenced_92 ?_
                refine ax_invS (n := 3) (As := [_, _, _]) dX12_silenced_93 cb_X12_isIn cs_X12_242.1 cs_X12_242.2 rfl ⟨Nat.le_of_ble_eq_true rfl, Nat.le_of_ble_eq_true rfl⟩ (Nat.le_of_ble_eq_true rfl) rfl (t_isInI (lo := _) (hi := _) (fun c_93 => ?_) (fun c_93 => ?_))
                · refine ax_if_eq (tgt := 103) dX12_silenced_96 (by decide) (fun z => absurd z (by decide)) (fun _ => ?_)
                  refine ax_iconst (v := 1) dX12_silenced_99 (by decide) ?_
                  refine ax_goto (tgt := 104) dX12_silenced_100 (by decide) ?_
                  refine ax_istore_n (i := 3) (lv' := [(3, _), (4, _), (0, _), (1, _), (2, _)]) dX12_silenced_104 rfl (by decide) rfl ?_
                  refine ax_iinc (v := _ + 1) (lv' := [(4, _), (3, _), (0, _), (1, _), (2, _)]) dX12_silenced_105 rfl rfl (by decide) rfl ?_
                  refine ax_goto (tgt := 5) dX12_silenced_108 (by decide) ?_
                  rw [nI_1]
                  exact ax_loc rfl (ih (k + 1) _ (by omega) (Or.inr ⟨rfl, k, by omega, Or.inl c_25, Or.inr (Classical.not_not.mp c_72), c_93⟩))
                · refine ax_if_eq (tgt := 103) dX12_silenced_96 (by decide) (fun _ => ?_) (fun z => absurd (by decide) z)
                  refine ax_iconst (v := 0) dX12_silenced_103 (by decide) ?_
                  refine ax_istore_n (i := 3) (lv' := [(3, _), (4, _), (0, _), (1, _), (2, _)]) dX12_silenced_104 rfl (by decide) rfl ?_
                  refine ax_iinc (v := _ + 1) (lv' := [(4, _), (3, _), (0, _), (1, _), (2, _)]) dX12_silenced_105 rfl rfl (by decide) rfl ?_
                  refine ax_goto (tgt := 5) dX12_silenced_108 (by decide) ?_
                  rw [nI_1]
                  exact ax_loc rfl (ih (k + 1) _ (by omega) (Or.inl ⟨rfl, fun j hj => (Nat.lt_succ_iff_lt_or_eq.mp hj).elim (hv.elim (fun z => z.2 j) (fun z => absurd (z.1.symm.trans (Classical.not_not.mp c_15)) (by decide))) (fun z => by rw [z]; exact fun z => c_93 z.2.2)⟩))
          · refine ax_aload_n (i := 0) dX12_silenced_28 rfl rfl rfl ?_
            refine ax_mR hm dX12_silenced_29 fl_X12_74 rfl (by decide) ?_
            refine ax_iload dX12_silenced_32 rfl ?_
            refine ax_mIN (N := 20) hm dX12_silenced_34 rfl rfl (by decide) (by omega) ?_
            refine ax_aload_n (i := 0) dX12_silenced_35 rfl rfl rfl ?_
            refine ax_mR hm dX12_silenced_36 fl_X12_7 rfl (by decide) ?_
            refine ax_aload_n (i := 0) dX12_silenced_39 rfl rfl rfl ?_
            refine ax_mR hm dX12_silenced_40 fl_X12_89 rfl (by decide) ?_
            refine ax_iload_n (i := 1) dX12_silenced_43 rfl rfl ?_
            refine ax_mIN (N := 300) hm dX12_silenced_44 rfl rfl (by decide) (by omega) ?_
            refine ax_top (hI.A (k := 32) (n := 300) (b := 16) (by decide) hx).1 ?_
            refine ax_mIN (N := 16) hm dX12_silenced_45 rfl rfl (by decide) (hI.A (k := 32) (n := 300) (b := 16) (by decide) hx).2 ?_
            refine ax_icmp_ne (tgt := 103) dX12_silenced_46 (by decide) (fun c_46 => ?_) (fun c_46 => ?_)
            · refine ax_iconst (v := 0) dX12_silenced_103 (by decide) ?_
              refine ax_istore_n (i := 3) (lv' := [(3, _), (4, _), (0, _), (1, _), (2, _)]) dX12_silenced_104 rfl (by decide) rfl ?_
              refine ax_iinc (v := _ + 1) (lv' := [(4, _), (3, _), (0, _), (1, _), (2, _)]) dX12_silenced_105 rfl rfl (by decide) rfl ?_
              refine ax_goto (tgt := 5) dX12_silenced_108 (by decide) ?_
              rw [nI_1]
              exact ax_loc rfl (ih (k + 1) _ (by omega) (Or.inl ⟨rfl, fun j hj => (Nat.lt_succ_iff_lt_or_eq.mp hj).elim (hv.elim (fun z => z.2 j) (fun z => absurd (z.1.symm.trans (Classical.not_not.mp c_15)) (by decide))) (fun z => by rw [z]; exact fun z => z.1.elim c_25 c_46)⟩))
            · refine ax_aload_n (i := 0) dX12_silenced_49 rfl rfl rfl ?_
              refine ax_mR hm dX12_silenced_50 fl_X12_77 rfl (by decide) ?_
              refine ax_iload dX12_silenced_53 rfl ?_
              refine ax_mIN (N := 20) hm dX12_silenced_55 rfl rfl (by decide) (by omega) ?_
              refine ax_if_lt (tgt := 75) dX12_silenced_56 (by decide) (fun c_56 => ?_) (fun c_56 => ?_)
              · refine ax_iload_n (i := 2) dX12_silenced_75 rfl rfl ?_
                refine ax_i2l dX12_silenced_76 ?_
                refine ax_aload_n (i := 0) dX12_silenced_77 rfl rfl rfl ?_
                refine ax_mR hm dX12_silenced_78 fl_X12_80 rfl (by decide) ?_
                refine ax_iload dX12_silenced_81 rfl ?_
                refine ax_mIN (N := 20) hm dX12_silenced_83 rfl rfl (by decide) (by omega) ?_
                refine ax_i2l dX12_silenced_84 ?_
                refine ax_aload_n (i := 0) dX12_silenced_85 rfl rfl rfl ?_
                refine ax_mR hm dX12_silenced_86 fl_X12_83 rfl (by decide) ?_
                refine ax_iload dX12_silenced_89 rfl ?_
                refine ax_mIN (N := 20) hm dX12_silenced_91 rfl rfl (by decide) (by omega) ?_
                refine ax_i2l dX12_silenced_92 ?_
                refine ax_invS (n := 3) (As := [_, _, _]) dX12_silenced_93 cb_X12_isIn cs_X12_242.1 cs_X12_242.2 rfl ⟨Nat.le_of_ble_eq_true rfl, Nat.le_of_ble_eq_true rfl⟩ (Nat.le_of_ble_eq_true rfl) rfl (t_isInI (lo := _) (hi := _) (fun c_93 => ?_) (fun c_93 => ?_))
                · refine ax_if_eq (tgt := 103) dX12_silenced_96 (by decide) (fun z => absurd z (by decide)) (fun _ => ?_)
                  refine ax_iconst (v := 1) dX12_silenced_99 (by decide) ?_
                  refine ax_goto (tgt := 104) dX12_silenced_100 (by decide) ?_
                  refine ax_istore_n (i := 3) (lv' := [(3, _), (4, _), (0, _), (1, _), (2, _)]) dX12_silenced_104 rfl (by decide) rfl ?_
                  refine ax_iinc (v := _ + 1) (lv' := [(4, _), (3, _), (0, _), (1, _), (2, _)]) dX12_silenced_105 rfl rfl (by decide) rfl ?_
                  refine ax_goto (tgt := 5) dX12_silenced_108 (by decide) ?_
                  rw [nI_1]
                  exact ax_loc rfl (ih (k + 1) _ (by omega) (Or.inr ⟨rfl, k, by omega, Or.inr (Classical.not_not.mp c_46), Or.inl c_56, c_93⟩))
                · refine ax_if_eq (tgt := 103) dX12_silenced_96 (by decide) (fun _ => ?_) (fun z => absurd (by decide) z)
                  refine ax_iconst (v := 0) dX12_silenced_103 (by decide) ?_
                  refine ax_istore_n (i := 3) (lv' := [(3, _), (4, _), (0, _), (1, _), (2, _)]) dX12_silenced_104 rfl (by decide) rfl ?_
                  refine ax_iinc (v := _ + 1) (lv' := [(4, _), (3, _), (0, _), (1, _), (2, _)]) dX12_silenced_105 rfl rfl (by decide) rfl ?_
                  refine ax_goto (tgt := 5) dX12_silenced_108 (by decide) ?_
                  rw [nI_1]
                  exact ax_loc rfl (ih (k + 1) _ (by omega) (Or.inl ⟨rfl, fun j hj => (Nat.lt_succ_iff_lt_or_eq.mp hj).elim (hv.elim (fun z => z.2 j) (fun z => absurd (z.1.symm.trans (Classical.not_not.mp c_15)) (by decide))) (fun z => by rw [z]; exact fun z => c_93 z.2.2)⟩))
              · refine ax_aload_n (i := 0) dX12_silenced_59 rfl rfl rfl ?_
                refine ax_mR hm dX12_silenced_60 fl_X12_77 rfl (by decide) ?_
                refine ax_iload dX12_silenced_63 rfl ?_
                refine ax_mIN (N := 20) hm dX12_silenced_65 rfl rfl (by decide) (by omega) ?_
                refine ax_aload_n (i := 0) dX12_silenced_66 rfl rfl rfl ?_
                refine ax_mR hm dX12_silenced_67 fl_X12_86 rfl (by decide) ?_
                refine ax_iload_n (i := 1) dX12_silenced_70 rfl rfl ?_
                refine ax_mIN (N := 300) hm dX12_silenced_71 rfl rfl (by decide) (by omega) ?_
                refine ax_icmp_ne (tgt := 103) dX12_silenced_72 (by decide) (fun c_72 => ?_) (fun c_72 => ?_)
                · refine ax_iconst (v := 0) dX12_silenced_103 (by decide) ?_
                  refine ax_istore_n (i := 3) (lv' := [(3, _), (4, _), (0, _), (1, _), (2, _)]) dX12_silenced_104 rfl (by decide) rfl ?_
                  refine ax_iinc (v := _ + 1) (lv' := [(4, _), (3, _), (0, _), (1, _), (2, _)]) dX12_silenced_105 rfl rfl (by decide) rfl ?_
                  refine ax_goto (tgt := 5) dX12_silenced_108 (by decide) ?_
                  rw [nI_1]
                  exact ax_loc rfl (ih (k + 1) _ (by omega) (Or.inl ⟨rfl, fun j hj => (Nat.lt_succ_iff_lt_or_eq.mp hj).elim (hv.elim (fun z => z.2 j) (fun z => absurd (z.1.symm.trans (Classical.not_not.mp c_15)) (by decide))) (fun z => by rw [z]; exact fun z => z.2.1.elim c_56 c_72)⟩))
                · refine ax_iload_n (i := 2) dX12_silenced_75 rfl rfl ?_
                  refine ax_i2l dX12_silenced_76 ?_
                  refine ax_aload_n (i := 0) dX12_silenced_77 rfl rfl rfl ?_
                  refine ax_mR hm dX12_silenced_78 fl_X12_80 rfl (by decide) ?_
                  refine ax_iload dX12_silenced_81 rfl ?_
                  refine ax_mIN (N := 20) hm dX12_silenced_83 rfl rfl (by decide) (by omega) ?_
                  refine ax_i2l dX12_silenced_84 ?_
                  refine ax_aload_n (i := 0) dX12_silenced_85 rfl rfl rfl ?_
                  refine ax_mR hm dX12_silenced_86 fl_X12_83 rfl (by decide) ?_
                  refine ax_iload dX12_silenced_89 rfl ?_
                  refine ax_mIN (N := 20) hm dX12_silenced_91 rfl rfl (by decide) (by omega) ?_
                  refine ax_i2l dX12_silenced_92 ?_
                  refine ax_invS (n := 3) (As := [_, _, _]) dX12_silenced_93 cb_X12_isIn cs_X12_242.1 cs_X12_242.2 rfl ⟨Nat.le_of_ble_eq_true rfl, Nat.le_of_ble_eq_true rfl⟩ (Nat.le_of_ble_eq_true rfl) rfl (t_isInI (lo := _) (hi := _) (fun c_93 => ?_) (fun c_93 => ?_))
                  · refine ax_if_eq (tgt := 103) dX12_silenced_96 (by decide) (fun z => absurd z (by decide)) (fun _ => ?_)
                    refine ax_iconst (v := 1) dX12_silenced_99 (by decide) ?_
                    refine ax_goto (tgt := 104) dX12_silenced_100 (by decide) ?_
                    refine ax_istore_n (i := 3) (lv' := [(3, _), (4, _), (0, _), (1, _), (2, _)]) dX12_silenced_104 rfl (by decide) rfl ?_
                    refine ax_iinc (v := _ + 1) (lv' := [(4, _), (3, _), (0, _), (1, _), (2, _)]) dX12_silenced_105 rfl rfl (by decide) rfl ?_
                    refine ax_goto (tgt := 5) dX12_silenced_108 (by decide) ?_
                    rw [nI_1]
                    exact ax_loc rfl (ih (k + 1) _ (by omega) (Or.inr ⟨rfl, k, by omega, Or.inr (Classical.not_not.mp c_46), Or.inr (Classical.not_not.mp c_72), c_93⟩))
                  · refine ax_if_eq (tgt := 103) dX12_silenced_96 (by decide) (fun _ => ?_) (fun z => absurd (by decide) z)
                    refine ax_iconst (v := 0) dX12_silenced_103 (by decide) ?_
                    refine ax_istore_n (i := 3) (lv' := [(3, _), (4, _), (0, _), (1, _), (2, _)]) dX12_silenced_104 rfl (by decide) rfl ?_
                    refine ax_iinc (v := _ + 1) (lv' := [(4, _), (3, _), (0, _), (1, _), (2, _)]) dX12_silenced_105 rfl rfl (by decide) rfl ?_
                    refine ax_goto (tgt := 5) dX12_silenced_108 (by decide) ?_
                    rw [nI_1]
                    exact ax_loc rfl (ih (k + 1) _ (by omega) (Or.inl ⟨rfl, fun j hj => (Nat.lt_succ_iff_lt_or_eq.mp hj).elim (hv.elim (fun z => z.2 j) (fun z => absurd (z.1.symm.trans (Classical.not_not.mp c_15)) (by decide))) (fun z => by rw [z]; exact fun z => c_93 z.2.2)⟩))
  refine ax_iconst (v := 0) dX12_silenced_0 (by decide) ?_
  refine ax_istore_n (i := 3) (lv' := [(3, _), (0, _), (1, _), (2, _)]) dX12_silenced_1 rfl (by decide) rfl ?_
  refine ax_iconst (v := nI 0) dX12_silenced_2 (by decide) ?_
  refine ax_istore (lv' := [(4, _), (3, _), (0, _), (1, _), (2, _)]) dX12_silenced_3 (by decide) rfl ?_
  exact ax_loc rfl (L (mN M 25) 0 _ (by omega) (Or.inl ⟨rfl, fun j hj => absurd hj (Nat.not_lt_zero j)⟩))
