theorem fin3 {Q : Option Value → awS → Nat → Nat → Prop} {S : awS} {Mx My : aM} {vx vy : Int32} {kc ks : Nat} (h : Q (some (.int vx)) (putM S Mx) kc ks) (e : Mx = My) (e2 : vx = vy) : Q (some (.int vy)) (putM S My) kc ks := by subst e; subst e2; exact h
theorem fin0 {Q : Option Value → awS → Nat → Nat → Prop} {S : awS} {Mx My : aM} {v : Option Value} {kc ks : Nat} (h : Q v (putM S Mx) kc ks) (e : Mx = My) : Q v (putM S My) kc ks := by subst e; exact h
theorem mFst_no {p : Nat → Prop} : ∀ {n : Nat}, (∀ j, j < n → ¬ p j) → mFst p n = n
  | 0, _ => rfl
  | n + 1, h => by
    show (if mFst p n < n then mFst p n else iC (p n) n (n + 1)) = n + 1
    have e : mFst p n = n := mFst_no (fun j hj => h j (by omega))
    rw [e, if_neg (Nat.lt_irrefl n), iC_f (h n (by omega))]
theorem mFst_at {p : Nat → Prop} : ∀ {n k : Nat}, k < n → p k → (∀ j, j < k → ¬ p j) → mFst p n = k
  | n + 1, k, hk, hp, hn => by
    show (if mFst p n < n then mFst p n else iC (p n) n (n + 1)) = k
    by_cases c : k = n
    · subst c
      have e : mFst p k = k := mFst_no hn
      rw [e, if_neg (Nat.lt_irrefl k), iC_t hp]
    · have e : mFst p n = k := mFst_at (by omega) hp hn
      rw [e, if_pos (by omega)]
theorem mFst_none {p : Nat → Prop} {n : Nat} (h : ∀ j, j < n → ¬ p j) : mFst p n = n := mFst_no h
theorem lt_of_c {x : Int32} {n b : Nat} (e : x = nI n) (c : ¬ nI b ≤ x) (hb : n < 2 ^ 31) : n < b := by
  rw [e] at c
  exact Nat.lt_of_not_le (fun z => c (nI_le z hb))
theorem ge_of_c {x : Int32} {n b : Nat} (e : x = nI n) (c : nI b ≤ x) (hb : b < 2 ^ 31) : b ≤ n := by
  rw [e] at c
  exact Nat.le_of_not_lt (fun z => nI_ge z hb c)
theorem lt_of_n {x : Int32} {n k : Nat} (e : x = nI n) (c : ¬ x ≤ nI k) (hb : k < 2 ^ 31) : k < n := by
  rw [e] at c
  exact Nat.lt_of_not_le (fun z => c (nI_le z hb))
theorem ge_of_n {x : Int32} {n k : Nat} (e : x = nI n) (c : x ≤ nI k) (hb : n < 2 ^ 31) : n ≤ k := by
  rw [e] at c
  exact Nat.le_of_not_lt (fun z => nI_ge z hb c)
theorem ax_mE {b : Bool} {E : awE} {Mt : awM} {pc : Nat} {lv : List (Nat × Value)} {st : List Value} {S : awS} {M M2 : aM} {kc ks : Nat} {Q : Option Value → awS → Nat → Nat → Prop} (e : M = M2) (k : awX b E Mt pc lv st (putM S M2) kc ks Q) : awX b E Mt pc lv st (putM S M) kc ks Q := by subst e; exact k

theorem nI_sub1 (n : Nat) : nI n + 1 - 1 = nI n := by rw [nI_1]; exact nI_pred n

set_option maxHeartbeats 4000000 in
set_option maxRecDepth 100000 in
theorem t_groupOf {b : Bool} {E : awE} {S : awS} {M : aM} {Q : Option Value → awS → Nat → Nat → Prop} (hm : mOk S) {r s : Nat} (hI : mI M) (hr : r < 16) (hs : s < 16) (ha : mN M 30 < 300) (h : Q (some (.int (nI (mGrpI M r s)))) (putM S (mGrp M r s)) 0 0) : awT b E m_X12_groupOf [.ref (nm 13 0), .int (nI r), .int (nI s)] (putM S M) Q := by
  refine awT.of (by decide) (by decide) (Nat.le_of_ble_eq_true rfl) ?_
  have eg : mS M 48 = nI (mN M 48) := (hI.S (k := 48) (b := 300) (by decide)).1
  have hg0 := hI.ga
  have hg : mN M 48 < 300 := by omega
  have L : ∀ (m k : Nat), k + m = mN M 48 → k ≤ mN M 48 → (∀ j, j < k → ¬ mSame M r s j) → awX b E m_X12_groupOf 2 [(3, .int (nI k)), (0, .ref (nm 13 0)), (1, .int (nI r)), (2, .int (nI s))] [] (putM S M) 0 0 Q := by
    intro m
    induction m with
    | zero =>
      intro k hm1 hk hno
      refine ax_iload_n (i := 3) dX12_groupOf_2 rfl rfl ?_
      refine ax_aload_n (i := 0) dX12_groupOf_3 rfl rfl rfl ?_
      refine ax_mS dX12_groupOf_4 fl_X12_333 rfl ?_
      refine ax_icmp_ge (tgt := 130) dX12_groupOf_7 (by decide) (fun c_7 => ?_) (fun c_7 => ?_)
      · have hk2 : k = mN M 48 := Nat.le_antisymm hk (ge_of_n eg c_7 (by omega))
        subst hk2
        have hG : mGrpI M r s = mN M 48 := mFst_none hno
        refine ax_aload_n (i := 0) dX12_groupOf_130 rfl rfl rfl ?_
        refine ax_mR hm dX12_groupOf_131 fl_X12_138 rfl (by decide) ?_
        refine ax_aload_n (i := 0) dX12_groupOf_134 rfl rfl rfl ?_
        refine ax_mS dX12_groupOf_135 fl_X12_333 rfl ?_
        refine ax_top eg ?_
        refine ax_aload_n (i := 0) dX12_groupOf_138 rfl rfl rfl ?_
        refine ax_mS dX12_groupOf_139 fl_X12_284 rfl ?_
        refine ax_mPIN (N := 300) hm dX12_groupOf_142 rfl rfl (by decide) hg ?_
        refine ax_aload_n (i := 0) dX12_groupOf_143 rfl rfl rfl ?_
        refine ax_mR hm dX12_groupOf_144 fl_X12_141 rfl (by decide) ?_
        refine ax_aload_n (i := 0) dX12_groupOf_147 rfl rfl rfl ?_
        refine ax_mS dX12_groupOf_148 fl_X12_333 rfl ?_
        refine ax_top eg ?_
        refine ax_iconst (v := 0) dX12_groupOf_151 (by decide) ?_
        refine ax_mPIN (N := 300) hm dX12_groupOf_152 rfl rfl (by decide) hg ?_
        refine ax_aload_n (i := 0) dX12_groupOf_153 rfl rfl rfl ?_
        refine ax_mR hm dX12_groupOf_154 fl_X12_144 rfl (by decide) ?_
        refine ax_aload_n (i := 0) dX12_groupOf_157 rfl rfl rfl ?_
        refine ax_mS dX12_groupOf_158 fl_X12_333 rfl ?_
        refine ax_top eg ?_
        refine ax_iconst (v := 0) dX12_groupOf_161 (by decide) ?_
        refine ax_mPZN (N := 300) hm dX12_groupOf_162 rfl rfl (by decide) hg rfl ?_
        refine ax_aload_n (i := 0) dX12_groupOf_163 rfl rfl rfl ?_
        refine ax_dup dX12_groupOf_164 rfl ?_
        refine ax_mS dX12_groupOf_165 fl_X12_333 rfl ?_
        refine ax_iconst (v := 1) dX12_groupOf_168 (by decide) ?_
        refine ax_iadd dX12_groupOf_169 ?_
        refine ax_mPS dX12_groupOf_170 fl_X12_333 rfl rfl ?_
        refine ax_aload_n (i := 0) dX12_groupOf_173 rfl rfl rfl ?_
        refine ax_mS dX12_groupOf_174 fl_X12_333 rfl ?_
        refine ax_iconst (v := nI 1) dX12_groupOf_177 (by decide) ?_
        refine ax_isub dX12_groupOf_178 ?_
        refine ax_iret dX12_groupOf_179 rfl rfl ?_
        exact fin3 h (by unfold mGrp; rw [hG, if_neg (Nat.lt_irrefl _)]; rfl) (by rw [hG]; show nI (mN M 48) = mS M 48 + 1 - 1; rw [eg]; exact (nI_sub1 _).symm)
      · exact absurd (lt_of_n eg c_7 (by omega)) (by omega)
    | succ m ih =>
      intro k hm1 hk hno
      refine ax_iload_n (i := 3) dX12_groupOf_2 rfl rfl ?_
      refine ax_aload_n (i := 0) dX12_groupOf_3 rfl rfl rfl ?_
      refine ax_mS dX12_groupOf_4 fl_X12_333 rfl ?_
      refine ax_icmp_ge (tgt := 130) dX12_groupOf_7 (by decide) (fun c_7 => ?_) (fun c_7 => ?_)
      · exact absurd (ge_of_n eg c_7 (by omega)) (by omega)
      · have hk2 : k < mN M 48 := lt_of_n eg c_7 (by omega)
        have hx : mE M 49 k < 300 := (hI.A (k := 49) (n := 300) (b := 300) (by decide) (by omega)).2
        refine ax_aload_n (i := 0) dX12_groupOf_10 rfl rfl rfl ?_
        refine ax_mR hm dX12_groupOf_11 fl_X12_138 rfl (by decide) ?_
        refine ax_iload_n (i := 3) dX12_groupOf_14 rfl rfl ?_
        refine ax_mIN (N := 300) hm dX12_groupOf_15 rfl rfl (by decide) (by omega) ?_
        refine ax_top (hI.A (k := 49) (n := 300) (b := 300) (by decide) (by omega)).1 ?_
        refine ax_istore (lv' := [(4, _), (3, _), (0, _), (1, _), (2, _)]) dX12_groupOf_16 (by decide) rfl ?_
        refine ax_aload_n (i := 0) dX12_groupOf_18 rfl rfl rfl ?_
        refine ax_mS dX12_groupOf_19 fl_X12_122 rfl ?_
        refine ax_iconst (v := 1) dX12_groupOf_22 (by decide) ?_
        refine ax_iand dX12_groupOf_23 ?_
        refine ax_if_eq (tgt := 48) dX12_groupOf_24 (by decide) (fun c_24 => ?_) (fun c_24 => ?_)
        · refine ax_iconst (v := 1) dX12_groupOf_48 (by decide) ?_
          refine ax_goto (tgt := 53) dX12_groupOf_49 (by decide) ?_
          refine ax_istore (lv' := [(5, _), (4, _), (3, _), (0, _), (1, _), (2, _)]) dX12_groupOf_53 (by decide) rfl ?_
          refine ax_iload dX12_groupOf_55 rfl ?_
          refine ax_if_eq (tgt := 114) dX12_groupOf_57 (by decide) (fun z => absurd z (by decide)) (fun _ => ?_)
          refine ax_aload_n (i := 0) dX12_groupOf_60 rfl rfl rfl ?_
          refine ax_mS dX12_groupOf_61 fl_X12_122 rfl ?_
          refine ax_iconst (v := 2) dX12_groupOf_64 (by decide) ?_
          refine ax_iand dX12_groupOf_65 ?_
          refine ax_if_eq (tgt := 80) dX12_groupOf_66 (by decide) (fun c_66 => ?_) (fun c_66 => ?_)
          · refine ax_aload_n (i := 0) dX12_groupOf_80 rfl rfl rfl ?_
            refine ax_mS dX12_groupOf_81 fl_X12_122 rfl ?_
            refine ax_iconst (v := 4) dX12_groupOf_84 (by decide) ?_
            refine ax_iand dX12_groupOf_85 ?_
            refine ax_if_eq (tgt := 110) dX12_groupOf_86 (by decide) (fun c_86 => ?_) (fun c_86 => ?_)
            · refine ax_iconst (v := 1) dX12_groupOf_110 (by decide) ?_
              refine ax_goto (tgt := 115) dX12_groupOf_111 (by decide) ?_
              refine ax_istore (lv' := [(5, _), (4, _), (3, _), (0, _), (1, _), (2, _)]) dX12_groupOf_115 (by decide) rfl ?_
              refine ax_iload dX12_groupOf_117 rfl ?_
              refine ax_if_eq (tgt := 124) dX12_groupOf_119 (by decide) (fun z => absurd z (by decide)) (fun _ => ?_)
              refine ax_iload_n (i := 3) dX12_groupOf_122 rfl rfl ?_
              refine ax_iret dX12_groupOf_123 rfl rfl ?_
              have hG : mGrpI M r s = k := mFst_at hk2 ⟨Or.inl c_24, Or.inl c_66, Or.inl c_86⟩ hno
              exact fin3 h (by unfold mGrp; rw [hG, if_pos hk2]) (by rw [hG])
            · refine ax_aload_n (i := 0) dX12_groupOf_89 rfl rfl rfl ?_
              refine ax_mR hm dX12_groupOf_90 fl_X12_39 rfl (by decide) ?_
              refine ax_aload_n (i := 0) dX12_groupOf_93 rfl rfl rfl ?_
              refine ax_mR hm dX12_groupOf_94 fl_X12_86 rfl (by decide) ?_
              refine ax_iload dX12_groupOf_97 rfl ?_
              refine ax_mIN (N := 300) hm dX12_groupOf_99 rfl rfl (by decide) hx ?_
              refine ax_top (hI.A (k := 31) (n := 300) (b := 16) (by decide) (hI.A (k := 49) (n := 300) (b := 300) (by decide) (by omega)).2).1 ?_
              refine ax_mIN (N := 16) hm dX12_groupOf_100 rfl rfl (by decide) (hI.A (k := 31) (n := 300) (b := 16) (by decide) hx).2 ?_
              refine ax_aload_n (i := 0) dX12_groupOf_101 rfl rfl rfl ?_
              refine ax_mR hm dX12_groupOf_102 fl_X12_39 rfl (by decide) ?_
              refine ax_iload_n (i := 1) dX12_groupOf_105 rfl rfl ?_
              refine ax_mIN (N := 16) hm dX12_groupOf_106 rfl rfl (by decide) (by omega) ?_
              refine ax_icmp_ne (tgt := 114) dX12_groupOf_107 (by decide) (fun c_107 => ?_) (fun c_107 => ?_)
              · refine ax_iconst (v := 0) dX12_groupOf_114 (by decide) ?_
                refine ax_istore (lv' := [(5, _), (4, _), (3, _), (0, _), (1, _), (2, _)]) dX12_groupOf_115 (by decide) rfl ?_
                refine ax_iload dX12_groupOf_117 rfl ?_
                refine ax_if_eq (tgt := 124) dX12_groupOf_119 (by decide) (fun _ => ?_) (fun z => absurd (by decide) z)
                refine ax_iinc (v := _ + 1) (lv' := [(3, _), (5, _), (4, _), (0, _), (1, _), (2, _)]) dX12_groupOf_124 rfl rfl (by decide) rfl ?_
                refine ax_goto (tgt := 2) dX12_groupOf_127 (by decide) ?_
                rw [nI_1]
                exact ax_loc rfl (ih (k + 1) (by omega) (by omega) (fun j hj => (Nat.lt_succ_iff_lt_or_eq.mp hj).elim (hno j) (fun z => by rw [z]; exact (fun z => z.2.2.elim c_86 c_107))))
              · refine ax_iconst (v := 1) dX12_groupOf_110 (by decide) ?_
                refine ax_goto (tgt := 115) dX12_groupOf_111 (by decide) ?_
                refine ax_istore (lv' := [(5, _), (4, _), (3, _), (0, _), (1, _), (2, _)]) dX12_groupOf_115 (by decide) rfl ?_
                refine ax_iload dX12_groupOf_117 rfl ?_
                refine ax_if_eq (tgt := 124) dX12_groupOf_119 (by decide) (fun z => absurd z (by decide)) (fun _ => ?_)
                refine ax_iload_n (i := 3) dX12_groupOf_122 rfl rfl ?_
                refine ax_iret dX12_groupOf_123 rfl rfl ?_
                have hG : mGrpI M r s = k := mFst_at hk2 ⟨Or.inl c_24, Or.inl c_66, Or.inr (Classical.not_not.mp c_107)⟩ hno
                exact fin3 h (by unfold mGrp; rw [hG, if_pos hk2]) (by rw [hG])
          · refine ax_aload_n (i := 0) dX12_groupOf_69 rfl rfl rfl ?_
            refine ax_mR hm dX12_groupOf_70 fl_X12_86 rfl (by decide) ?_
            refine ax_iload dX12_groupOf_73 rfl ?_
            refine ax_mIN (N := 300) hm dX12_groupOf_75 rfl rfl (by decide) hx ?_
            refine ax_iload_n (i := 1) dX12_groupOf_76 rfl rfl ?_
            refine ax_icmp_ne (tgt := 114) dX12_groupOf_77 (by decide) (fun c_77 => ?_) (fun c_77 => ?_)
            · refine ax_iconst (v := 0) dX12_groupOf_114 (by decide) ?_
              refine ax_istore (lv' := [(5, _), (4, _), (3, _), (0, _), (1, _), (2, _)]) dX12_groupOf_115 (by decide) rfl ?_
              refine ax_iload dX12_groupOf_117 rfl ?_
              refine ax_if_eq (tgt := 124) dX12_groupOf_119 (by decide) (fun _ => ?_) (fun z => absurd (by decide) z)
              refine ax_iinc (v := _ + 1) (lv' := [(3, _), (5, _), (4, _), (0, _), (1, _), (2, _)]) dX12_groupOf_124 rfl rfl (by decide) rfl ?_
              refine ax_goto (tgt := 2) dX12_groupOf_127 (by decide) ?_
              rw [nI_1]
              exact ax_loc rfl (ih (k + 1) (by omega) (by omega) (fun j hj => (Nat.lt_succ_iff_lt_or_eq.mp hj).elim (hno j) (fun z => by rw [z]; exact (fun z => z.2.1.elim c_66 c_77))))
            · refine ax_aload_n (i := 0) dX12_groupOf_80 rfl rfl rfl ?_
              refine ax_mS dX12_groupOf_81 fl_X12_122 rfl ?_
              refine ax_iconst (v := 4) dX12_groupOf_84 (by decide) ?_
              refine ax_iand dX12_groupOf_85 ?_
              refine ax_if_eq (tgt := 110) dX12_groupOf_86 (by decide) (fun c_86 => ?_) (fun c_86 => ?_)
              · refine ax_iconst (v := 1) dX12_groupOf_110 (by decide) ?_
                refine ax_goto (tgt := 115) dX12_groupOf_111 (by decide) ?_
                refine ax_istore (lv' := [(5, _), (4, _), (3, _), (0, _), (1, _), (2, _)]) dX12_groupOf_115 (by decide) rfl ?_
                refine ax_iload dX12_groupOf_117 rfl ?_
                refine ax_if_eq (tgt := 124) dX12_groupOf_119 (by decide) (fun z => absurd z (by decide)) (fun _ => ?_)
                refine ax_iload_n (i := 3) dX12_groupOf_122 rfl rfl ?_
                refine ax_iret dX12_groupOf_123 rfl rfl ?_
                have hG : mGrpI M r s = k := mFst_at hk2 ⟨Or.inl c_24, Or.inr (Classical.not_not.mp c_77), Or.inl c_86⟩ hno
                exact fin3 h (by unfold mGrp; rw [hG, if_pos hk2]) (by rw [hG])
              · refine ax_aload_n (i := 0) dX12_groupOf_89 rfl rfl rfl ?_
                refine ax_mR hm dX12_groupOf_90 fl_X12_39 rfl (by decide) ?_
                refine ax_aload_n (i := 0) dX12_groupOf_93 rfl rfl rfl ?_
                refine ax_mR hm dX12_groupOf_94 fl_X12_86 rfl (by decide) ?_
                refine ax_iload dX12_groupOf_97 rfl ?_
                refine ax_mIN (N := 300) hm dX12_groupOf_99 rfl rfl (by decide) hx ?_
                refine ax_top (hI.A (k := 31) (n := 300) (b := 16) (by decide) (hI.A (k := 49) (n := 300) (b := 300) (by decide) (by omega)).2).1 ?_
                refine ax_mIN (N := 16) hm dX12_groupOf_100 rfl rfl (by decide) (hI.A (k := 31) (n := 300) (b := 16) (by decide) hx).2 ?_
                refine ax_aload_n (i := 0) dX12_groupOf_101 rfl rfl rfl ?_
                refine ax_mR hm dX12_groupOf_102 fl_X12_39 rfl (by decide) ?_
                refine ax_iload_n (i := 1) dX12_groupOf_105 rfl rfl ?_
                refine ax_mIN (N := 16) hm dX12_groupOf_106 rfl rfl (by decide) (by omega) ?_
                refine ax_icmp_ne (tgt := 114) dX12_groupOf_107 (by decide) (fun c_107 => ?_) (fun c_107 => ?_)
                · refine ax_iconst (v := 0) dX12_groupOf_114 (by decide) ?_
                  refine ax_istore (lv' := [(5, _), (4, _), (3, _), (0, _), (1, _), (2, _)]) dX12_groupOf_115 (by decide) rfl ?_
                  refine ax_iload dX12_groupOf_117 rfl ?_
                  refine ax_if_eq (tgt := 124) dX12_groupOf_119 (by decide) (fun _ => ?_) (fun z => absurd (by decide) z)
                  refine ax_iinc (v := _ + 1) (lv' := [(3, _), (5, _), (4, _), (0, _), (1, _), (2, _)]) dX12_groupOf_124 rfl rfl (by decide) rfl ?_
                  refine ax_goto (tgt := 2) dX12_groupOf_127 (by decide) ?_
                  rw [nI_1]
                  exact ax_loc rfl (ih (k + 1) (by omega) (by omega) (fun j hj => (Nat.lt_succ_iff_lt_or_eq.mp hj).elim (hno j) (fun z => by rw [z]; exact (fun z => z.2.2.elim c_86 c_107))))
                · refine ax_iconst (v := 1) dX12_groupOf_110 (by decide) ?_
                  refine ax_goto (tgt := 115) dX12_groupOf_111 (by decide) ?_
                  refine ax_istore (lv' := [(5, _), (4, _), (3, _), (0, _), (1, _), (2, _)]) dX12_groupOf_115 (by decide) rfl ?_
                  refine ax_iload dX12_groupOf_117 rfl ?_
                  refine ax_if_eq (tgt := 124) dX12_groupOf_119 (by decide) (fun z => absurd z (by decide)) (fun _ => ?_)
                  refine ax_iload_n (i := 3) dX12_groupOf_122 rfl rfl ?_
                  refine ax_iret dX12_groupOf_123 rfl rfl ?_
                  have hG : mGrpI M r s = k := mFst_at hk2 ⟨Or.inl c_24, Or.inr (Classical.not_not.mp c_77), Or.inr (Classical.not_not.mp c_107)⟩ hno
                  exact fin3 h (by unfold mGrp; rw [hG, if_pos hk2]) (by rw [hG])
        · refine ax_aload_n (i := 0) dX12_groupOf_27 rfl rfl rfl ?_
          refine ax_mR hm dX12_groupOf_28 fl_X12_7 rfl (by decide) ?_
          refine ax_aload_n (i := 0) dX12_groupOf_31 rfl rfl rfl ?_
          refine ax_mR hm dX12_groupOf_32 fl_X12_89 rfl (by decide) ?_
          refine ax_iload dX12_groupOf_35 rfl ?_
          refine ax_mIN (N := 300) hm dX12_groupOf_37 rfl rfl (by decide) hx ?_
          refine ax_top (hI.A (k := 32) (n := 300) (b := 16) (by decide) (hI.A (k := 49) (n := 300) (b := 300) (by decide) (by omega)).2).1 ?_
          refine ax_mIN (N := 16) hm dX12_groupOf_38 rfl rfl (by decide) (hI.A (k := 32) (n := 300) (b := 16) (by decide) hx).2 ?_
          refine ax_aload_n (i := 0) dX12_groupOf_39 rfl rfl rfl ?_
          refine ax_mR hm dX12_groupOf_40 fl_X12_7 rfl (by decide) ?_
          refine ax_iload_n (i := 2) dX12_groupOf_43 rfl rfl ?_
          refine ax_mIN (N := 16) hm dX12_groupOf_44 rfl rfl (by decide) (by omega) ?_
          refine ax_icmp_ne (tgt := 52) dX12_groupOf_45 (by decide) (fun c_45 => ?_) (fun c_45 => ?_)
          · refine ax_iconst (v := 0) dX12_groupOf_52 (by decide) ?_
            refine ax_istore (lv' := [(5, _), (4, _), (3, _), (0, _), (1, _), (2, _)]) dX12_groupOf_53 (by decide) rfl ?_
            refine ax_iload dX12_groupOf_55 rfl ?_
            refine ax_if_eq (tgt := 114) dX12_groupOf_57 (by decide) (fun _ => ?_) (fun z => absurd (by decide) z)
            refine ax_iconst (v := 0) dX12_groupOf_114 (by decide) ?_
            refine ax_istore (lv' := [(5, _), (4, _), (3, _), (0, _), (1, _), (2, _)]) dX12_groupOf_115 (by decide) rfl ?_
            refine ax_iload dX12_groupOf_117 rfl ?_
            refine ax_if_eq (tgt := 124) dX12_groupOf_119 (by decide) (fun _ => ?_) (fun z => absurd (by decide) z)
            refine ax_iinc (v := _ + 1) (lv' := [(3, _), (5, _), (4, _), (0, _), (1, _), (2, _)]) dX12_groupOf_124 rfl rfl (by decide) rfl ?_
            refine ax_goto (tgt := 2) dX12_groupOf_127 (by decide) ?_
            rw [nI_1]
            exact ax_loc rfl (ih (k + 1) (by omega) (by omega) (fun j hj => (Nat.lt_succ_iff_lt_or_eq.mp hj).elim (hno j) (fun z => by rw [z]; exact (fun z => z.1.elim c_24 c_45))))
          · refine ax_iconst (v := 1) dX12_groupOf_48 (by decide) ?_
            refine ax_goto (tgt := 53) dX12_groupOf_49 (by decide) ?_
            refine ax_istore (lv' := [(5, _), (4, _), (3, _), (0, _), (1, _), (2, _)]) dX12_groupOf_53 (by decide) rfl ?_
            refine ax_iload dX12_groupOf_55 rfl ?_
            refine ax_if_eq (tgt := 114) dX12_groupOf_57 (by decide) (fun z => absurd z (by decide)) (fun _ => ?_)
            refine ax_aload_n (i := 0) dX12_groupOf_60 rfl rfl rfl ?_
            refine ax_mS dX12_groupOf_61 fl_X12_122 rfl ?_
            refine ax_iconst (v := 2) dX12_groupOf_64 (by decide) ?_
            refine ax_iand dX12_groupOf_65 ?_
            refine ax_if_eq (tgt := 80) dX12_groupOf_66 (by decide) (fun c_66 => ?_) (fun c_66 => ?_)
            · refine ax_aload_n (i := 0) dX12_groupOf_80 rfl rfl rfl ?_
              refine ax_mS dX12_groupOf_81 fl_X12_122 rfl ?_
              refine ax_iconst (v := 4) dX12_groupOf_84 (by decide) ?_
              refine ax_iand dX12_groupOf_85 ?_
              refine ax_if_eq (tgt := 110) dX12_groupOf_86 (by decide) (fun c_86 => ?_) (fun c_86 => ?_)
              · refine ax_iconst (v := 1) dX12_groupOf_110 (by decide) ?_
                refine ax_goto (tgt := 115) dX12_groupOf_111 (by decide) ?_
                refine ax_istore (lv' := [(5, _), (4, _), (3, _), (0, _), (1, _), (2, _)]) dX12_groupOf_115 (by decide) rfl ?_
                refine ax_iload dX12_groupOf_117 rfl ?_
                refine ax_if_eq (tgt := 124) dX12_groupOf_119 (by decide) (fun z => absurd z (by decide)) (fun _ => ?_)
                refine ax_iload_n (i := 3) dX12_groupOf_122 rfl rfl ?_
                refine ax_iret dX12_groupOf_123 rfl rfl ?_
                have hG : mGrpI M r s = k := mFst_at hk2 ⟨Or.inr (Classical.not_not.mp c_45), Or.inl c_66, Or.inl c_86⟩ hno
                exact fin3 h (by unfold mGrp; rw [hG, if_pos hk2]) (by rw [hG])
              · refine ax_aload_n (i := 0) dX12_groupOf_89 rfl rfl rfl ?_
                refine ax_mR hm dX12_groupOf_90 fl_X12_39 rfl (by decide) ?_
                refine ax_aload_n (i := 0) dX12_groupOf_93 rfl rfl rfl ?_
                refine ax_mR hm dX12_groupOf_94 fl_X12_86 rfl (by decide) ?_
                refine ax_iload dX12_groupOf_97 rfl ?_
                refine ax_mIN (N := 300) hm dX12_groupOf_99 rfl rfl (by decide) hx ?_
                refine ax_top (hI.A (k := 31) (n := 300) (b := 16) (by decide) (hI.A (k := 49) (n := 300) (b := 300) (by decide) (by omega)).2).1 ?_
                refine ax_mIN (N := 16) hm dX12_groupOf_100 rfl rfl (by decide) (hI.A (k := 31) (n := 300) (b := 16) (by decide) hx).2 ?_
                refine ax_aload_n (i := 0) dX12_groupOf_101 rfl rfl rfl ?_
                refine ax_mR hm dX12_groupOf_102 fl_X12_39 rfl (by decide) ?_
                refine ax_iload_n (i := 1) dX12_groupOf_105 rfl rfl ?_
                refine ax_mIN (N := 16) hm dX12_groupOf_106 rfl rfl (by decide) (by omega) ?_
                refine ax_icmp_ne (tgt := 114) dX12_groupOf_107 (by decide) (fun c_107 => ?_) (fun c_107 => ?_)
                · refine ax_iconst (v := 0) dX12_groupOf_114 (by decide) ?_
                  refine ax_istore (lv' := [(5, _), (4, _), (3, _), (0, _), (1, _), (2, _)]) dX12_groupOf_115 (by decide) rfl ?_
                  refine ax_iload dX12_groupOf_117 rfl ?_
                  refine ax_if_eq (tgt := 124) dX12_groupOf_119 (by decide) (fun _ => ?_) (fun z => absurd (by decide) z)
                  refine ax_iinc (v := _ + 1) (lv' := [(3, _), (5, _), (4, _), (0, _), (1, _), (2, _)]) dX12_groupOf_124 rfl rfl (by decide) rfl ?_
                  refine ax_goto (tgt := 2) dX12_groupOf_127 (by decide) ?_
                  rw [nI_1]
                  exact ax_loc rfl (ih (k + 1) (by omega) (by omega) (fun j hj => (Nat.lt_succ_iff_lt_or_eq.mp hj).elim (hno j) (fun z => by rw [z]; exact (fun z => z.2.2.elim c_86 c_107))))
                · refine ax_iconst (v := 1) dX12_groupOf_110 (by decide) ?_
                  refine ax_goto (tgt := 115) dX12_groupOf_111 (by decide) ?_
                  refine ax_istore (lv' := [(5, _), (4, _), (3, _), (0, _), (1, _), (2, _)]) dX12_groupOf_115 (by decide) rfl ?_
                  refine ax_iload dX12_groupOf_117 rfl ?_
                  refine ax_if_eq (tgt := 124) dX12_groupOf_119 (by decide) (fun z => absurd z (by decide)) (fun _ => ?_)
                  refine ax_iload_n (i := 3) dX12_groupOf_122 rfl rfl ?_
                  refine ax_iret dX12_groupOf_123 rfl rfl ?_
                  have hG : mGrpI M r s = k := mFst_at hk2 ⟨Or.inr (Classical.not_not.mp c_45), Or.inl c_66, Or.inr (Classical.not_not.mp c_107)⟩ hno
                  exact fin3 h (by unfold mGrp; rw [hG, if_pos hk2]) (by rw [hG])
            · refine ax_aload_n (i := 0) dX12_groupOf_69 rfl rfl rfl ?_
              refine ax_mR hm dX12_groupOf_70 fl_X12_86 rfl (by decide) ?_
              refine ax_iload dX12_groupOf_73 rfl ?_
              refine ax_mIN (N := 300) hm dX12_groupOf_75 rfl rfl (by decide) hx ?_
              refine ax_iload_n (i := 1) dX12_groupOf_76 rfl rfl ?_
              refine ax_icmp_ne (tgt := 114) dX12_groupOf_77 (by decide) (fun c_77 => ?_) (fun c_77 => ?_)
              · refine ax_iconst (v := 0) dX12_groupOf_114 (by decide) ?_
                refine ax_istore (lv' := [(5, _), (4, _), (3, _), (0, _), (1, _), (2, _)]) dX12_groupOf_115 (by decide) rfl ?_
                refine ax_iload dX12_groupOf_117 rfl ?_
                refine ax_if_eq (tgt := 124) dX12_groupOf_119 (by decide) (fun _ => ?_) (fun z => absurd (by decide) z)
                refine ax_iinc (v := _ + 1) (lv' := [(3, _), (5, _), (4, _), (0, _), (1, _), (2, _)]) dX12_groupOf_124 rfl rfl (by decide) rfl ?_
                refine ax_goto (tgt := 2) dX12_groupOf_127 (by decide) ?_
                rw [nI_1]
                exact ax_loc rfl (ih (k + 1) (by omega) (by omega) (fun j hj => (Nat.lt_succ_iff_lt_or_eq.mp hj).elim (hno j) (fun z => by rw [z]; exact (fun z => z.2.1.elim c_66 c_77))))
              · refine ax_aload_n (i := 0) dX12_groupOf_80 rfl rfl rfl ?_
                refine ax_mS dX12_groupOf_81 fl_X12_122 rfl ?_
                refine ax_iconst (v := 4) dX12_groupOf_84 (by decide) ?_
                refine ax_iand dX12_groupOf_85 ?_
                refine ax_if_eq (tgt := 110) dX12_groupOf_86 (by decide) (fun c_86 => ?_) (fun c_86 => ?_)
                · refine ax_iconst (v := 1) dX12_groupOf_110 (by decide) ?_
                  refine ax_goto (tgt := 115) dX12_groupOf_111 (by decide) ?_
                  refine ax_istore (lv' := [(5, _), (4, _), (3, _), (0, _), (1, _), (2, _)]) dX12_groupOf_115 (by decide) rfl ?_
                  refine ax_iload dX12_groupOf_117 rfl ?_
                  refine ax_if_eq (tgt := 124) dX12_groupOf_119 (by decide) (fun z => absurd z (by decide)) (fun _ => ?_)
                  refine ax_iload_n (i := 3) dX12_groupOf_122 rfl rfl ?_
                  refine ax_iret dX12_groupOf_123 rfl rfl ?_
                  have hG : mGrpI M r s = k := mFst_at hk2 ⟨Or.inr (Classical.not_not.mp c_45), Or.inr (Classical.not_not.mp c_77), Or.inl c_86⟩ hno
                  exact fin3 h (by unfold mGrp; rw [hG, if_pos hk2]) (by rw [hG])
                · refine ax_aload_n (i := 0) dX12_groupOf_89 rfl rfl rfl ?_
                  refine ax_mR hm dX12_groupOf_90 fl_X12_39 rfl (by decide) ?_
                  refine ax_aload_n (i := 0) dX12_groupOf_93 rfl rfl rfl ?_
                  refine ax_mR hm dX12_groupOf_94 fl_X12_86 rfl (by decide) ?_
                  refine ax_iload dX12_groupOf_97 rfl ?_
                  refine ax_mIN (N := 300) hm dX12_groupOf_99 rfl rfl (by decide) hx ?_
                  refine ax_top (hI.A (k := 31) (n := 300) (b := 16) (by decide) (hI.A (k := 49) (n := 300) (b := 300) (by decide) (by omega)).2).1 ?_
                  refine ax_mIN (N := 16) hm dX12_groupOf_100 rfl rfl (by decide) (hI.A (k := 31) (n := 300) (b := 16) (by decide) hx).2 ?_
                  refine ax_aload_n (i := 0) dX12_groupOf_101 rfl rfl rfl ?_
                  refine ax_mR hm dX12_groupOf_102 fl_X12_39 rfl (by decide) ?_
                  refine ax_iload_n (i := 1) dX12_groupOf_105 rfl rfl ?_
                  refine ax_mIN (N := 16) hm dX12_groupOf_106 rfl rfl (by decide) (by omega) ?_
                  refine ax_icmp_ne (tgt := 114) dX12_groupOf_107 (by decide) (fun c_107 => ?_) (fun c_107 => ?_)
                  · refine ax_iconst (v := 0) dX12_groupOf_114 (by decide) ?_
                    refine ax_istore (lv' := [(5, _), (4, _), (3, _), (0, _), (1, _), (2, _)]) dX12_groupOf_115 (by decide) rfl ?_
                    refine ax_iload dX12_groupOf_117 rfl ?_
                    refine ax_if_eq (tgt := 124) dX12_groupOf_119 (by decide) (fun _ => ?_) (fun z => absurd (by decide) z)
                    refine ax_iinc (v := _ + 1) (lv' := [(3, _), (5, _), (4, _), (0, _), (1, _), (2, _)]) dX12_groupOf_124 rfl rfl (by decide) rfl ?_
                    refine ax_goto (tgt := 2) dX12_groupOf_127 (by decide) ?_
                    rw [nI_1]
                    exact ax_loc rfl (ih (k + 1) (by omega) (by omega) (fun j hj => (Nat.lt_succ_iff_lt_or_eq.mp hj).elim (hno j) (fun z => by rw [z]; exact (fun z => z.2.2.elim c_86 c_107))))
                  · refine ax_iconst (v := 1) dX12_groupOf_110 (by decide) ?_
                    refine ax_goto (tgt := 115) dX12_groupOf_111 (by decide) ?_
                    refine ax_istore (lv' := [(5, _), (4, _), (3, _), (0, _), (1, _), (2, _)]) dX12_groupOf_115 (by decide) rfl ?_
                    refine ax_iload dX12_groupOf_117 rfl ?_
                    refine ax_if_eq (tgt := 124) dX12_groupOf_119 (by decide) (fun z => absurd z (by decide)) (fun _ => ?_)
                    refine ax_iload_n (i := 3) dX12_groupOf_122 rfl rfl ?_
                    refine ax_iret dX12_groupOf_123 rfl rfl ?_
                    have hG : mGrpI M r s = k := mFst_at hk2 ⟨Or.inr (Classical.not_not.mp c_45), Or.inr (Classical.not_not.mp c_77), Or.inr (Classical.not_not.mp c_107)⟩ hno
                    exact fin3 h (by unfold mGrp; rw [hG, if_pos hk2]) (by rw [hG])
  refine ax_iconst (v := nI 0) dX12_groupOf_0 (by decide) ?_
  refine ax_istore_n (i := 3) (lv' := [(3, _), (0, _), (1, _), (2, _)]) dX12_groupOf_1 rfl (by decide) rfl ?_
  exact ax_loc rfl (L (mN M 48) 0 (by omega) (by omega) (fun j hj => absurd hj (Nat.not_lt_zero j)))
theorem mS_mGrp (M : aM) (r s k : Nat) (hk : ¬ k = 48) : mS (mGrp M r s) k = mS M k := by
  unfold mGrp
  by_cases c : mGrpI M r s < mN M 48
  · rw [if_pos c]
  · rw [if_neg c, mS_pS, if_neg hk]; rfl

set_option maxHeartbeats 4000000 in
set_option maxRecDepth 100000 in
theorem t_begin {b : Bool} {E : awE} {S : awS} {M : aM} {Q : Option Value → awS → Nat → Nat → Prop} (hm : mOk S) {r s t : Nat} (hI : mI M) (hr : r < 16) (hs : s < 16) (ha : mN M 30 < 300) (h : Q none (putM S (mBegin M r s t)) 0 0) : awT b E m_X12_begin [.ref (nm 13 0), .int (nI r), .int (nI s), .int (nI t)] (putM S M) Q := by
  refine awT.of (by decide) (by decide) (Nat.le_of_ble_eq_true rfl) ?_
  have ea : mS (mGrp M r s) 30 = nI (mN (mGrp M r s) 30) := by unfold mN; rw [mS_mGrp M r s _ (by decide)]; exact (hI.S (k := 30) (b := 300) (by decide)).1
  have ha2 : mN (mGrp M r s) 30 < 300 := by unfold mN; rw [mS_mGrp M r s _ (by decide)]; exact ha
  have h : Q none (putM S (mBeginA (mGrp M r s) r s t (mGrpI M r s))) 0 0 := h
  refine ax_aload_n (i := 0) dX12_begin_0 rfl rfl rfl ?_
  refine ax_iload_n (i := 1) dX12_begin_1 rfl rfl ?_
  refine ax_iload_n (i := 2) dX12_begin_2 rfl rfl ?_
  refine ax_invV (c := 13) (n := 2) (As := [_, _]) dX12_begin_3 cb_X12_groupOf cv_X12_336.1 cv_X12_336.2.1 cv_X12_336.2.2 rfl (by decide) rfl ⟨Nat.le_of_ble_eq_true rfl, Nat.le_of_ble_eq_true rfl⟩ (Nat.le_of_ble_eq_true rfl) rfl (t_groupOf hm hI hr hs ha ?_)
  refine ax_top rfl ?_
  generalize hN : mGrp M r s = N at ea ha2 h ⊢
  generalize hG : mGrpI M r s = g at h ⊢
  refine ax_istore (lv' := [(4, _), (0, _), (1, _), (2, _), (3, _)]) dX12_begin_6 (by decide) rfl ?_
  refine ax_aload_n (i := 0) dX12_begin_8 rfl rfl rfl ?_
  refine ax_mR hm dX12_begin_9 fl_X12_86 rfl (by decide) ?_
  refine ax_aload_n (i := 0) dX12_begin_12 rfl rfl rfl ?_
  refine ax_mS dX12_begin_13 fl_X12_284 rfl ?_
  refine ax_top ea ?_
  refine ax_iload_n (i := 1) dX12_begin_16 rfl rfl ?_
  refine ax_mPIN (N := 300) hm dX12_begin_17 rfl rfl (by decide) ha2 ?_
  refine ax_aload_n (i := 0) dX12_begin_18 rfl rfl rfl ?_
  refine ax_mR hm dX12_begin_19 fl_X12_89 rfl (by decide) ?_
  refine ax_aload_n (i := 0) dX12_begin_22 rfl rfl rfl ?_
  refine ax_mS dX12_begin_23 fl_X12_284 rfl ?_
  refine ax_top ea ?_
  refine ax_iload_n (i := 2) dX12_begin_26 rfl rfl ?_
  refine ax_mPIN (N := 300) hm dX12_begin_27 rfl rfl (by decide) ha2 ?_
  refine ax_aload_n (i := 0) dX12_begin_28 rfl rfl rfl ?_
  refine ax_mR hm dX12_begin_29 fl_X12_92 rfl (by decide) ?_
  refine ax_aload_n (i := 0) dX12_begin_32 rfl rfl rfl ?_
  refine ax_mS dX12_begin_33 fl_X12_284 rfl ?_
  refine ax_top ea ?_
  refine ax_iload_n (i := 3) dX12_begin_36 rfl rfl ?_
  refine ax_mPIN (N := 300) hm dX12_begin_37 rfl rfl (by decide) ha2 ?_
  refine ax_aload_n (i := 0) dX12_begin_38 rfl rfl rfl ?_
  refine ax_mR hm dX12_begin_39 fl_X12_95 rfl (by decide) ?_
  refine ax_aload_n (i := 0) dX12_begin_42 rfl rfl rfl ?_
  refine ax_mS dX12_begin_43 fl_X12_284 rfl ?_
  refine ax_top ea ?_
  refine ax_iconst (v := 0) dX12_begin_46 (by decide) ?_
  refine ax_mPIN (N := 300) hm dX12_begin_47 rfl rfl (by decide) ha2 ?_
  refine ax_aload_n (i := 0) dX12_begin_48 rfl rfl rfl ?_
  refine ax_mR hm dX12_begin_49 fl_X12_98 rfl (by decide) ?_
  refine ax_aload_n (i := 0) dX12_begin_52 rfl rfl rfl ?_
  refine ax_mS dX12_begin_53 fl_X12_284 rfl ?_
  refine ax_top ea ?_
  refine ax_iconst (v := 0) dX12_begin_56 (by decide) ?_
  refine ax_mPZN (N := 300) hm dX12_begin_57 rfl rfl (by decide) ha2 rfl ?_
  refine ax_aload_n (i := 0) dX12_begin_58 rfl rfl rfl ?_
  refine ax_mR hm dX12_begin_59 fl_X12_101 rfl (by decide) ?_
  refine ax_aload_n (i := 0) dX12_begin_62 rfl rfl rfl ?_
  refine ax_mS dX12_begin_63 fl_X12_284 rfl ?_
  refine ax_top ea ?_
  refine ax_iconst (v := 0) dX12_begin_66 (by decide) ?_
  refine ax_mPZN (N := 300) hm dX12_begin_67 rfl rfl (by decide) ha2 rfl ?_
  refine ax_aload_n (i := 0) dX12_begin_68 rfl rfl rfl ?_
  refine ax_mR hm dX12_begin_69 fl_X12_104 rfl (by decide) ?_
  refine ax_aload_n (i := 0) dX12_begin_72 rfl rfl rfl ?_
  refine ax_mS dX12_begin_73 fl_X12_284 rfl ?_
  refine ax_top ea ?_
  refine ax_iconst (v := 0) dX12_begin_76 (by decide) ?_
  refine ax_mPIN (N := 300) hm dX12_begin_77 rfl rfl (by decide) ha2 ?_
  refine ax_aload_n (i := 0) dX12_begin_78 rfl rfl rfl ?_
  refine ax_mR hm dX12_begin_79 fl_X12_107 rfl (by decide) ?_
  refine ax_aload_n (i := 0) dX12_begin_82 rfl rfl rfl ?_
  refine ax_mS dX12_begin_83 fl_X12_284 rfl ?_
  refine ax_top ea ?_
  refine ax_iconst (v := 0) dX12_begin_86 (by decide) ?_
  refine ax_mPIN (N := 300) hm dX12_begin_87 rfl rfl (by decide) ha2 ?_
  refine ax_aload_n (i := 0) dX12_begin_88 rfl rfl rfl ?_
  refine ax_mR hm dX12_begin_89 fl_X12_110 rfl (by decide) ?_
  refine ax_aload_n (i := 0) dX12_begin_92 rfl rfl rfl ?_
  refine ax_mS dX12_begin_93 fl_X12_284 rfl ?_
  refine ax_top ea ?_
  refine ax_iconst (v := 0) dX12_begin_96 (by decide) ?_
  refine ax_mPZN (N := 300) hm dX12_begin_97 rfl rfl (by decide) ha2 rfl ?_
  refine ax_aload_n (i := 0) dX12_begin_98 rfl rfl rfl ?_
  refine ax_mR hm dX12_begin_99 fl_X12_113 rfl (by decide) ?_
  refine ax_aload_n (i := 0) dX12_begin_102 rfl rfl rfl ?_
  refine ax_mS dX12_begin_103 fl_X12_284 rfl ?_
  refine ax_top ea ?_
  refine ax_iconst (v := 0) dX12_begin_106 (by decide) ?_
  refine ax_mPZN (N := 300) hm dX12_begin_107 rfl rfl (by decide) ha2 rfl ?_
  refine ax_aload_n (i := 0) dX12_begin_108 rfl rfl rfl ?_
  refine ax_mR hm dX12_begin_109 fl_X12_116 rfl (by decide) ?_
  refine ax_aload_n (i := 0) dX12_begin_112 rfl rfl rfl ?_
  refine ax_mS dX12_begin_113 fl_X12_284 rfl ?_
  refine ax_top ea ?_
  refine ax_iconst (v := 0) dX12_begin_116 (by decide) ?_
  refine ax_mPZN (N := 300) hm dX12_begin_117 rfl rfl (by decide) ha2 rfl ?_
  refine ax_aload_n (i := 0) dX12_begin_118 rfl rfl rfl ?_
  refine ax_mR hm dX12_begin_119 fl_X12_119 rfl (by decide) ?_
  refine ax_aload_n (i := 0) dX12_begin_122 rfl rfl rfl ?_
  refine ax_mS dX12_begin_123 fl_X12_284 rfl ?_
  refine ax_top ea ?_
  refine ax_iload dX12_begin_126 rfl ?_
  refine ax_mPIN (N := 300) hm dX12_begin_128 rfl rfl (by decide) ha2 ?_
  refine ax_aload_n (i := 0) dX12_begin_129 rfl rfl rfl ?_
  refine ax_mR hm dX12_begin_130 fl_X12_62 rfl (by decide) ?_
  refine ax_bipush (v := nI 16) dX12_begin_133 (by decide) ?_
  refine ax_iload_n (i := 1) dX12_begin_135 rfl rfl ?_
  refine ax_imulN dX12_begin_136 ?_
  refine ax_iload_n (i := 2) dX12_begin_137 rfl rfl ?_
  refine ax_iaddN dX12_begin_138 ?_
  refine ax_aload_n (i := 0) dX12_begin_139 rfl rfl rfl ?_
  refine ax_mS dX12_begin_140 fl_X12_284 rfl ?_
  refine ax_top ea ?_
  refine ax_mPIN (N := 256) hm dX12_begin_143 rfl rfl (by decide) (by omega) ?_
  refine ax_aload_n (i := 0) dX12_begin_144 rfl rfl rfl ?_
  refine ax_dup dX12_begin_145 rfl ?_
  refine ax_mS dX12_begin_146 fl_X12_284 rfl ?_
  refine ax_top ea ?_
  refine ax_iconst (v := nI 1) dX12_begin_149 (by decide) ?_
  refine ax_iaddN dX12_begin_150 ?_
  refine ax_mPS dX12_begin_151 fl_X12_284 rfl rfl ?_
  refine ax_vret dX12_begin_154 rfl ?_
  exact h
def in3 (v : Int32) : Prop := v = -1 ∨ v = 0 ∨ v = 1
theorem in3_m : in3 (-1) := Or.inl rfl
theorem in3_0 : in3 0 := Or.inr (Or.inl rfl)
theorem in3_1 : in3 1 := Or.inr (Or.inr rfl)
theorem in3_ite {p : Prop} [Decidable p] {a b : Int32} (ha : in3 a) (hb : in3 b) : in3 (if p then a else b) := by
  by_cases c : p
  · rw [if_pos c]; exact ha
  · rw [if_neg c]; exact hb
theorem in3_iC {p : Prop} {a b : Int32} (ha : in3 a) (hb : in3 b) : in3 (iC p a b) := by
  by_cases c : p
  · rw [iC_t c]; exact ha
  · rw [iC_f c]; exact hb
theorem in3_bC {p : Prop} : in3 (bC p) := by
  by_cases c : p
  · rw [bC_t c]; exact in3_1
  · rw [bC_f c]; exact in3_0
theorem in3_both (x y : Int32) : in3 (mBoth x y) := in3_ite in3_1 (in3_ite in3_0 in3_m)
theorem in3_odd (M : aM) (r s t : Nat) (v : Int64) : in3 (mOdd M r s t v) := in3_ite in3_0 (in3_ite in3_1 in3_0)
theorem in3_found (M : aM) (r s t : Nat) : in3 (mFound M r s t) :=
  in3_ite in3_m (in3_ite (in3_ite in3_1 in3_0) (in3_ite (in3_both _ _) (in3_iC (in3_ite (in3_ite in3_1 in3_0) (in3_ite (in3_ite in3_1 in3_0) (in3_ite (in3_iC (in3_ite in3_1 in3_0) in3_m) (in3_ite in3_bC (in3_odd M r s t _))))) in3_m)))
theorem in3_b {v : Int32} (h : in3 v) : (v + 1).toInt8.toInt32 = v + 1 := by
  rcases h with e | e | e <;> (rw [e]; decide)
theorem mI.note {M : aM} (h : mI M) (x t : Nat) (v : Int32) : mI (mNote M x t v) := by
  have h2 : mI (pA (pA M 16 (401 * x + t) (v + 1)) 17 x (if v < 0 then mA (pA M 16 (401 * x + t) (v + 1)) 17 x else v)) := (h.qF (by decide)).qF (by decide)
  unfold mNote
  by_cases c : v = 1
  · simp only [c, if_true]; rw [c] at h2; exact (h2.qF (by decide)).qF (by decide)
  · simp only [c, if_false]
    by_cases c0 : v = 0
    · simp only [c0, if_true]; rw [c0] at h2; exact (h2.qF (by decide)).qF (by decide)
    · simp only [c0, if_false]; exact h2
theorem mS_note (M : aM) (x t : Nat) (v : Int32) (k : Nat) : mS (mNote M x t v) k = mS M k := by
  unfold mNote
  by_cases c : v = 1
  · simp only [c, if_true]; rfl
  · simp only [c, if_false]
    by_cases c0 : v = 0
    · simp only [c0, if_true]; rfl
    · simp only [c0, if_false]; rfl

set_option maxHeartbeats 4000000 in
set_option maxRecDepth 100000 in
theorem t_judge {b : Bool} {E : awE} {S : awS} {M : aM} {Q : Option Value → awS → Nat → Nat → Prop} (hm : mOk S) {r s t : Nat} (hI : mI M) (hr : r < 16) (hs : s < 16) (ht : t ≤ 400) (ht0 : 0 < t) (h : Q none (putM S (mJudge M r s t)) 0 0) : awT b E m_X12_judge [.ref (nm 13 0), .int (nI r), .int (nI s), .int (nI t)] (putM S M) Q := by
  refine awT.of (by decide) (by decide) (Nat.le_of_ble_eq_true rfl) ?_
  have hb3 := in3_b (in3_found M r s t)
  have K : awX b E m_X12_judge 111 [(5, .int (mFound M r s t)), (4, .int (nI (16 * r + s))), (0, .ref (nm 13 0)), (1, .int (nI r)), (2, .int (nI s)), (3, .int (nI t))] [] (putM S (mNote M (16 * r + s) t (mFound M r s t))) 0 0 Q := by
    have hI2 := hI.note (16 * r + s) t (mFound M r s t)
    generalize hN : mNote M (16 * r + s) t (mFound M r s t) = N at hI2 ⊢
    refine ax_aload_n (i := 0) dX12_judge_111 rfl rfl rfl ?_
    refine ax_mR hm dX12_judge_112 fl_X12_62 rfl (by decide) ?_
    refine ax_iload dX12_judge_115 rfl ?_
    refine ax_mIN (N := 256) hm dX12_judge_117 rfl rfl (by decide) (by omega) ?_
    refine ax_if_ge (tgt := 157) dX12_judge_118 (by decide) (fun c_118 => ?_) (fun c_118 => ?_)
    · refine ax_aload_n (i := 0) dX12_judge_157 rfl rfl rfl ?_
      refine ax_mR hm dX12_judge_158 fl_X12_59 rfl (by decide) ?_
      refine ax_iload dX12_judge_161 rfl ?_
      refine ax_mIN (N := 256) hm dX12_judge_163 rfl rfl (by decide) (by omega) ?_
      refine ax_aload_n (i := 0) dX12_judge_164 rfl rfl rfl ?_
      refine ax_mR hm dX12_judge_165 fl_X12_36 rfl (by decide) ?_
      refine ax_iload_n (i := 1) dX12_judge_168 rfl rfl ?_
      refine ax_mIN (N := 16) hm dX12_judge_169 rfl rfl (by decide) (by omega) ?_
      refine ax_icmp_lt (tgt := 194) dX12_judge_170 (by decide) (fun c_170 => ?_) (fun c_170 => ?_)
      · refine ax_vret dX12_judge_194 rfl ?_
        exact fin0 h (by unfold mJudge mTurn; simp only []; rw [hN]; rw [if_neg (Int32.not_lt.mpr c_118)]; rw [if_neg (fun z => absurd c_170 (Int32.not_lt.mpr z))])
      · have hl0 := (hI2.la (16 * r + s)).elim (fun z => absurd c_118 (Int32.not_le.mpr z)) (fun z => z)
        have hla : mA N 20 (16 * r + s) = nI (mE N 20 (16 * r + s)) := hl0.1
        have hlb : mE N 20 (16 * r + s) < 300 := hl0.2
        refine ax_aload_n (i := 0) dX12_judge_173 rfl rfl rfl ?_
        refine ax_mR hm dX12_judge_174 fl_X12_95 rfl (by decide) ?_
        refine ax_aload_n (i := 0) dX12_judge_177 rfl rfl rfl ?_
        refine ax_mR hm dX12_judge_178 fl_X12_62 rfl (by decide) ?_
        refine ax_iload dX12_judge_181 rfl ?_
        refine ax_mIN (N := 256) hm dX12_judge_183 rfl rfl (by decide) (by omega) ?_
        refine ax_top hla ?_
        refine ax_iload_n (i := 3) dX12_judge_184 rfl rfl ?_
        refine ax_mPIN (N := 300) hm dX12_judge_185 rfl rfl (by decide) hlb ?_
        refine ax_aload_n (i := 0) dX12_judge_186 rfl rfl rfl ?_
        refine ax_mR hm dX12_judge_187 fl_X12_62 rfl (by decide) ?_
        refine ax_iload dX12_judge_190 rfl ?_
        refine ax_iconst (v := -1) dX12_judge_192 (by decide) ?_
        refine ax_mPIN (N := 256) hm dX12_judge_193 rfl rfl (by decide) (by omega) ?_
        refine ax_vret dX12_judge_194 rfl ?_
        exact fin0 h (by unfold mJudge mTurn; simp only []; rw [hN]; rw [if_neg (Int32.not_lt.mpr c_118)]; rw [if_pos (Int32.not_lt.mp c_170)])
    · refine ax_aload_n (i := 0) dX12_judge_121 rfl rfl rfl ?_
      refine ax_mR hm dX12_judge_122 fl_X12_56 rfl (by decide) ?_
      refine ax_iload dX12_judge_125 rfl ?_
      refine ax_mIN (N := 256) hm dX12_judge_127 rfl rfl (by decide) (by omega) ?_
      refine ax_aload_n (i := 0) dX12_judge_128 rfl rfl rfl ?_
      refine ax_mR hm dX12_judge_129 fl_X12_33 rfl (by decide) ?_
      refine ax_iload_n (i := 1) dX12_judge_132 rfl rfl ?_
      refine ax_mIN (N := 16) hm dX12_judge_133 rfl rfl (by decide) (by omega) ?_
      refine ax_icmp_lt (tgt := 194) dX12_judge_134 (by decide) (fun c_134 => ?_) (fun c_134 => ?_)
      · refine ax_vret dX12_judge_194 rfl ?_
        exact fin0 h (by unfold mJudge mTurn; simp only []; rw [hN]; rw [if_pos (Int32.not_le.mp c_118)]; rw [if_neg (fun z => absurd c_134 (Int32.not_lt.mpr z.1))])
      · refine ax_aload_n (i := 0) dX12_judge_137 rfl rfl rfl ?_
        refine ax_mS dX12_judge_138 fl_X12_284 rfl ?_
        refine ax_sipush (v := 300) dX12_judge_141 (by decide) ?_
        refine ax_icmp_ge (tgt := 194) dX12_judge_144 (by decide) (fun c_144 => ?_) (fun c_144 => ?_)
        · refine ax_vret dX12_judge_194 rfl ?_
          exact fin0 h (by unfold mJudge mTurn; simp only []; rw [hN]; rw [if_pos (Int32.not_le.mp c_118)]; rw [if_neg (fun z => absurd c_144 (Int32.not_le.mpr z.2))])
        · have ha2 : mN N 30 < 300 := lt_of_c (b := 300) (hI2.S (k := 30) (b := 300) (by decide)).1 c_144 (Nat.lt_of_le_of_lt (hI2.S (k := 30) (b := 300) (by decide)).2 (by decide))
          refine ax_aload_n (i := 0) dX12_judge_147 rfl rfl rfl ?_
          refine ax_iload_n (i := 1) dX12_judge_148 rfl rfl ?_
          refine ax_iload_n (i := 2) dX12_judge_149 rfl rfl ?_
          refine ax_iload_n (i := 3) dX12_judge_150 rfl rfl ?_
          refine ax_invV (c := 13) (n := 3) (As := [_, _, _]) dX12_judge_151 cb_X12_begin cv_X12_342.1 cv_X12_342.2.1 cv_X12_342.2.2 rfl (by decide) rfl ⟨Nat.le_of_ble_eq_true rfl, Nat.le_of_ble_eq_true rfl⟩ (Nat.le_of_ble_eq_true rfl) rfl (t_begin hm hI2 hr hs ha2 ?_)
          refine ax_goto (tgt := 194) dX12_judge_154 (by decide) ?_
          refine ax_vret dX12_judge_194 rfl ?_
          exact fin0 h (by unfold mJudge mTurn; simp only []; rw [hN]; rw [if_pos (Int32.not_le.mp c_118)]; rw [if_pos ⟨Int32.not_lt.mp c_134, Int32.not_le.mp c_144⟩])
  refine ax_bipush (v := nI 16) dX12_judge_0 (by decide) ?_
  refine ax_iload_n (i := 1) dX12_judge_2 rfl rfl ?_
  refine ax_imulN dX12_judge_3 ?_
  refine ax_iload_n (i := 2) dX12_judge_4 rfl rfl ?_
  refine ax_iaddN dX12_judge_5 ?_
  refine ax_istore (lv' := [(4, _), (0, _), (1, _), (2, _), (3, _)]) dX12_judge_6 (by decide) rfl ?_
  refine ax_aload_n (i := 0) dX12_judge_8 rfl rfl rfl ?_
  refine ax_iload_n (i := 1) dX12_judge_9 rfl rfl ?_
  refine ax_iload_n (i := 2) dX12_judge_10 rfl rfl ?_
  refine ax_iload_n (i := 3) dX12_judge_11 rfl rfl ?_
  refine ax_invV (c := 13) (n := 3) (As := [_, _, _]) dX12_judge_12 cb_X12_found cv_X12_339.1 cv_X12_339.2.1 cv_X12_339.2.2 rfl (by decide) rfl ⟨Nat.le_of_ble_eq_true rfl, Nat.le_of_ble_eq_true rfl⟩ (Nat.le_of_ble_eq_true rfl) rfl (t_found hm hr hs ht ht0 (hI.i6 hr).2 (hI.i6 hr).1 ?_)
  refine ax_istore (lv' := [(5, _), (4, _), (0, _), (1, _), (2, _), (3, _)]) dX12_judge_15 (by decide) rfl ?_
  refine ax_aload_n (i := 0) dX12_judge_17 rfl rfl rfl ?_
  refine ax_mR hm dX12_judge_18 fl_X12_49 rfl (by decide) ?_
  refine ax_sipush (v := nI 401) dX12_judge_21 (by decide) ?_
  refine ax_iload dX12_judge_24 rfl ?_
  refine ax_imulN dX12_judge_26 ?_
  refine ax_iload_n (i := 3) dX12_judge_27 rfl rfl ?_
  refine ax_iaddN dX12_judge_28 ?_
  refine ax_iload dX12_judge_29 rfl ?_
  refine ax_iconst (v := 1) dX12_judge_31 (by decide) ?_
  refine ax_iadd dX12_judge_32 ?_
  refine ax_i2b dX12_judge_33 ?_
  refine ax_top hb3 ?_
  refine ax_mPBN (N := 102656) hm dX12_judge_34 rfl rfl (by decide) (by omega) hb3 ?_
  refine ax_aload_n (i := 0) dX12_judge_35 rfl rfl rfl ?_
  refine ax_mR hm dX12_judge_36 fl_X12_53 rfl (by decide) ?_
  refine ax_iload dX12_judge_39 rfl ?_
  refine ax_iload dX12_judge_41 rfl ?_
  refine ax_if_ge (tgt := 56) dX12_judge_43 (by decide) (fun c_43 => ?_) (fun c_43 => ?_)
  · refine ax_iload dX12_judge_56 rfl ?_
    refine ax_mPIN (N := 256) hm dX12_judge_58 rfl rfl (by decide) (by omega) ?_
    refine ax_iload dX12_judge_59 rfl ?_
    refine ax_iconst (v := 1) dX12_judge_61 (by decide) ?_
    refine ax_icmp_ne (tgt := 87) dX12_judge_62 (by decide) (fun c_62 => ?_) (fun c_62 => ?_)
    · refine ax_iload dX12_judge_87 rfl ?_
      refine ax_if_ne (tgt := 111) dX12_judge_89 (by decide) (fun c_89 => ?_) (fun c_89 => ?_)
      · refine ax_mE (M2 := mNote M (16 * r + s) t (mFound M r s t)) (by unfold mNote; simp only []; rw [if_neg (Int32.not_lt.mpr c_43)]; rw [if_neg c_62, if_neg c_89]) ?_
        exact ax_loc rfl K
      · refine ax_aload_n (i := 0) dX12_judge_92 rfl rfl rfl ?_
        refine ax_mR hm dX12_judge_93 fl_X12_59 rfl (by decide) ?_
        refine ax_iload dX12_judge_96 rfl ?_
        refine ax_dup2 dX12_judge_98 rfl rfl ?_
        refine ax_mIN (N := 256) hm dX12_judge_99 rfl rfl (by decide) (by omega) ?_
        refine ax_iconst (v := 1) dX12_judge_100 (by decide) ?_
        refine ax_iadd dX12_judge_101 ?_
        refine ax_mPIN (N := 256) hm dX12_judge_102 rfl rfl (by decide) (by omega) ?_
        refine ax_aload_n (i := 0) dX12_judge_103 rfl rfl rfl ?_
        refine ax_mR hm dX12_judge_104 fl_X12_56 rfl (by decide) ?_
        refine ax_iload dX12_judge_107 rfl ?_
        refine ax_iconst (v := 0) dX12_judge_109 (by decide) ?_
        refine ax_mPIN (N := 256) hm dX12_judge_110 rfl rfl (by decide) (by omega) ?_
        refine ax_mE (M2 := mNote M (16 * r + s) t (mFound M r s t)) (by unfold mNote; simp only []; rw [if_neg (Int32.not_lt.mpr c_43)]; rw [if_neg c_62, if_pos (Classical.not_not.mp c_89)]) ?_
        exact ax_loc rfl K
    · refine ax_aload_n (i := 0) dX12_judge_65 rfl rfl rfl ?_
      refine ax_mR hm dX12_judge_66 fl_X12_56 rfl (by decide) ?_
      refine ax_iload dX12_judge_69 rfl ?_
      refine ax_dup2 dX12_judge_71 rfl rfl ?_
      refine ax_mIN (N := 256) hm dX12_judge_72 rfl rfl (by decide) (by omega) ?_
      refine ax_iconst (v := 1) dX12_judge_73 (by decide) ?_
      refine ax_iadd dX12_judge_74 ?_
      refine ax_mPIN (N := 256) hm dX12_judge_75 rfl rfl (by decide) (by omega) ?_
      refine ax_aload_n (i := 0) dX12_judge_76 rfl rfl rfl ?_
      refine ax_mR hm dX12_judge_77 fl_X12_59 rfl (by decide) ?_
      refine ax_iload dX12_judge_80 rfl ?_
      refine ax_iconst (v := 0) dX12_judge_82 (by decide) ?_
      refine ax_mPIN (N := 256) hm dX12_judge_83 rfl rfl (by decide) (by omega) ?_
      refine ax_goto (tgt := 111) dX12_judge_84 (by decide) ?_
      refine ax_mE (M2 := mNote M (16 * r + s) t (mFound M r s t)) (by unfold mNote; simp only []; rw [if_neg (Int32.not_lt.mpr c_43)]; rw [if_pos (Classical.not_not.mp c_62)]) ?_
      exact ax_loc rfl K
  · refine ax_aload_n (i := 0) dX12_judge_46 rfl rfl rfl ?_
    refine ax_mR hm dX12_judge_47 fl_X12_53 rfl (by decide) ?_
    refine ax_iload dX12_judge_50 rfl ?_
    refine ax_mIN (N := 256) hm dX12_judge_52 rfl rfl (by decide) (by omega) ?_
    refine ax_goto (tgt := 58) dX12_judge_53 (by decide) ?_
    refine ax_mPIN (N := 256) hm dX12_judge_58 rfl rfl (by decide) (by omega) ?_
    refine ax_iload dX12_judge_59 rfl ?_
    refine ax_iconst (v := 1) dX12_judge_61 (by decide) ?_
    refine ax_icmp_ne (tgt := 87) dX12_judge_62 (by decide) (fun c_62 => ?_) (fun c_62 => ?_)
    · refine ax_iload dX12_judge_87 rfl ?_
      refine ax_if_ne (tgt := 111) dX12_judge_89 (by decide) (fun c_89 => ?_) (fun c_89 => ?_)
      · refine ax_mE (M2 := mNote M (16 * r + s) t (mFound M r s t)) (by unfold mNote; simp only []; rw [if_pos (Int32.not_le.mp c_43)]; rw [if_neg c_62, if_neg c_89]) ?_
        exact ax_loc rfl K
      · refine ax_aload_n (i := 0) dX12_judge_92 rfl rfl rfl ?_
        refine ax_mR hm dX12_judge_93 fl_X12_59 rfl (by decide) ?_
        refine ax_iload dX12_judge_96 rfl ?_
        refine ax_dup2 dX12_judge_98 rfl rfl ?_
        refine ax_mIN (N := 256) hm dX12_judge_99 rfl rfl (by decide) (by omega) ?_
        refine ax_iconst (v := 1) dX12_judge_100 (by decide) ?_
        refine ax_iadd dX12_judge_101 ?_
        refine ax_mPIN (N := 256) hm dX12_judge_102 rfl rfl (by decide) (by omega) ?_
        refine ax_aload_n (i := 0) dX12_judge_103 rfl rfl rfl ?_
        refine ax_mR hm dX12_judge_104 fl_X12_56 rfl (by decide) ?_
        refine ax_iload dX12_judge_107 rfl ?_
        refine ax_iconst (v := 0) dX12_judge_109 (by decide) ?_
        refine ax_mPIN (N := 256) hm dX12_judge_110 rfl rfl (by decide) (by omega) ?_
        refine ax_mE (M2 := mNote M (16 * r + s) t (mFound M r s t)) (by unfold mNote; simp only []; rw [if_pos (Int32.not_le.mp c_43)]; rw [if_neg c_62, if_pos (Classical.not_not.mp c_89)]) ?_
        exact ax_loc rfl K
    · refine ax_aload_n (i := 0) dX12_judge_65 rfl rfl rfl ?_
      refine ax_mR hm dX12_judge_66 fl_X12_56 rfl (by decide) ?_
      refine ax_iload dX12_judge_69 rfl ?_
      refine ax_dup2 dX12_judge_71 rfl rfl ?_
      refine ax_mIN (N := 256) hm dX12_judge_72 rfl rfl (by decide) (by omega) ?_
      refine ax_iconst (v := 1) dX12_judge_73 (by decide) ?_
      refine ax_iadd dX12_judge_74 ?_
      refine ax_mPIN (N := 256) hm dX12_judge_75 rfl rfl (by decide) (by omega) ?_
      refine ax_aload_n (i := 0) dX12_judge_76 rfl rfl rfl ?_
      refine ax_mR hm dX12_judge_77 fl_X12_59 rfl (by decide) ?_
      refine ax_iload dX12_judge_80 rfl ?_
      refine ax_iconst (v := 0) dX12_judge_82 (by decide) ?_
      refine ax_mPIN (N := 256) hm dX12_judge_83 rfl rfl (by decide) (by omega) ?_
      refine ax_goto (tgt := 111) dX12_judge_84 (by decide) ?_
      refine ax_mE (M2 := mNote M (16 * r + s) t (mFound M r s t)) (by unfold mNote; simp only []; rw [if_pos (Int32.not_le.mp c_43)]; rw [if_pos (Classical.not_not.mp c_62)]) ?_
      exact ax_loc rfl K
