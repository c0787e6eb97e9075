theorem lt_pred64 {a : Int64} {n : Nat} (hn : n ≤ 100) : a < (nI n).toInt64 ↔ a ≤ (nI n - 1).toInt64 := by
  have e1 : (nI n - 1).toInt = (n : Int) - 1 := pk_sub_toInt (b := 1) (by omega) (by decide)
  rw [Int64.lt_iff_toInt_lt, Int64.le_iff_toInt_le, Int32.toInt_toInt64, Int32.toInt_toInt64, e1, nI_toInt (by omega)]
  omega
theorem neg_div {x : Int32} (h : x < 0) : ¬ 1 ≤ x / 10000 := by
  intro z
  rw [Int32.le_iff_toInt_le, Int32.toInt_div_of_ne_right x 10000 (by decide)] at z
  rw [Int32.lt_iff_toInt_lt] at h
  have e0 : (0 : Int32).toInt = 0 := by decide
  have e1 : (1 : Int32).toInt = 1 := by decide
  have e2 : (10000 : Int32).toInt = 10000 := by decide
  rw [e0] at h
  rw [e1, e2] at z
  have q : Int.tdiv x.toInt 10000 ≤ 0 := by
    have w : 0 ≤ Int.tdiv (-x.toInt) 10000 := Int.tdiv_nonneg (by omega) (by decide)
    rw [Int.neg_tdiv] at w
    omega
  omega
abbrev lookOk (M : aM) (k n : Int32) (a : Int64) (b : Int32) : Prop := (0 ≤ k ∧ k ≤ 6) ∧ (k < 2 ∨ 5 < k ∨ (1 ≤ n ∧ n ≤ 20)) ∧ (¬ k = 1 ∨ b.toInt64 ≤ a) ∧ (¬ k = 3 ∨ (1 ≤ b ∧ b ≤ 100)) ∧ (¬ k = 6 ∨ ((0 ≤ a ∧ a ≤ (mS M 6 - 1).toInt64) ∧ okRule M b))
abbrev mannerOk (x : Int32) : Prop := (1 ≤ x - x / 100 * 100 ∧ x - x / 100 * 100 ≤ 10) ∧ (1 ≤ x / 100 - x / 100 / 100 * 100 ∧ x / 100 - x / 100 / 100 * 100 ≤ 10) ∧ (1 ≤ x / 10000 ∧ x / 10000 ≤ 5)
theorem sw_7 {x : Int32} (h1 : 0 ≤ x.toInt) (h2 : x.toInt ≤ 6) : x = 0 ∨ x = 1 ∨ x = 2 ∨ x = 3 ∨ x = 4 ∨ x = 5 ∨ x = 6 := by
  have : x.toInt = 0 ∨ x.toInt = 1 ∨ x.toInt = 2 ∨ x.toInt = 3 ∨ x.toInt = 4 ∨ x.toInt = 5 ∨ x.toInt = 6 := by omega
  rcases this with e | e | e | e | e | e | e
  · exact Or.inl (Int32.toInt_inj.mp e)
  · exact Or.inr (Or.inl (Int32.toInt_inj.mp e))
  · exact Or.inr (Or.inr (Or.inl (Int32.toInt_inj.mp e)))
  · exact Or.inr (Or.inr (Or.inr (Or.inl (Int32.toInt_inj.mp e))))
  · exact Or.inr (Or.inr (Or.inr (Or.inr (Or.inl (Int32.toInt_inj.mp e)))))
  · exact Or.inr (Or.inr (Or.inr (Or.inr (Or.inr (Or.inl (Int32.toInt_inj.mp e))))))
  · exact Or.inr (Or.inr (Or.inr (Or.inr (Or.inr (Or.inr (Int32.toInt_inj.mp e))))))
theorem not_to {x : Int32} (h : x.toInt < 0) : ¬ 0 ≤ x := fun z => by
  rw [Int32.le_iff_toInt_le] at z
  have e : (0 : Int32).toInt = 0 := by decide
  omega
theorem not_to6 {x : Int32} (h : 6 < x.toInt) : ¬ x ≤ 6 := fun z => by
  rw [Int32.le_iff_toInt_le] at z
  have e : (6 : Int32).toInt = 6 := by decide
  omega
theorem ax_kE {b : Bool} {E : awE} {Mt : awM} {pc : Nat} {lv : List (Nat × Value)} {st : List Value} {S : awS} {kc ks kc' ks' : Nat} {Q : Option Value → awS → Nat → Nat → Prop} (e1 : kc = kc') (e2 : ks = ks') (k : awX b E Mt pc lv st S kc' ks' Q) : awX b E Mt pc lv st S kc ks Q := by
  subst e1
  subst e2
  exact k

set_option maxHeartbeats 400000 in
set_option maxRecDepth 100000 in
theorem c_isLook {E : awE} {S : awS} {M : aM} {τ : Nat → Nat → Nat} {Q : Option Value → awS → Nat → Nat → Prop} (R : cR τ S M) {k n : Int32} {a : Int64} {b_ : Int32} (h1 : lookOk M k n a b_ → Q (some (.int 1)) S 0 0) (h0 : ¬ lookOk M k n a b_ → Q (some (.int 0)) S 0 0) : awT true E m_X11_isLook [.ref (nm 12 0), .int k, .int n, .long a, .int b_] S Q := by
  refine awT.of (by decide) (by decide) (Nat.le_of_ble_eq_true rfl) ?_
  have e16 := R.nR
  have eR : mS M 6 = nI (mN M 6) := mS_nI R.mI (k := 6) (b := 16) (by decide)
  refine ax_iload_n (i := 1) dX11_isLook_0 rfl rfl ?_
  refine ax_iconst (v := 2) dX11_isLook_1 (by decide) ?_
  refine ax_icmp_lt (tgt := 22) dX11_isLook_2 (by decide) (fun c_2 => ?_) (fun c_2 => ?_)
  · refine ax_iload_n (i := 1) dX11_isLook_22 rfl rfl ?_
    rcases (by omega : k.toInt < 0 ∨ 0 ≤ k.toInt) with c_23 | c_23
    · refine ax_tableOut (tgt := 131) dX11_isLook_23 (Or.inl c_23) (by decide) ?_
      refine ax_iconst (v := 0) dX11_isLook_131 (by decide) ?_
      refine ax_iret dX11_isLook_132 rfl rfl ?_
      exact h0 (fun z => not_to c_23 z.1.1)
    rcases (by omega : 6 < k.toInt ∨ k.toInt ≤ 6) with c2_23 | c2_23
    · refine ax_tableOut (tgt := 131) dX11_isLook_23 (Or.inr c2_23) (by decide) ?_
      refine ax_iconst (v := 0) dX11_isLook_131 (by decide) ?_
      refine ax_iret dX11_isLook_132 rfl rfl ?_
      exact h0 (fun z => not_to6 c2_23 z.1.2)
    have c3_23 : k = 0 ∨ k = 1 ∨ k = 2 ∨ k = 3 ∨ k = 4 ∨ k = 5 ∨ k = 6 := by have h1 := c_23; have h2 := c2_23; exact sw_7 h1 h2
    rcases c3_23 with c4_23 | c4_23 | c4_23 | c4_23 | c4_23 | c4_23 | c4_23
    · refine ax_tableIn (tgt := 64) (off := 41) dX11_isLook_23 (by rw [c4_23]; decide) (by rw [c4_23]; decide) (by rw [c4_23]; decide) (by decide) ?_
      refine ax_iconst (v := 1) dX11_isLook_64 (by decide) ?_
      refine ax_iret dX11_isLook_65 rfl rfl ?_
      exact h1 ⟨⟨by rw [c4_23]; decide, by rw [c4_23]; decide⟩, Or.inl c_2, Or.inl (by rw [c4_23]; decide), Or.inl (by rw [c4_23]; decide), Or.inl (by rw [c4_23]; decide)⟩
    · refine ax_tableIn (tgt := 66) (off := 43) dX11_isLook_23 (by rw [c4_23]; decide) (by rw [c4_23]; decide) (by rw [c4_23]; decide) (by decide) ?_
      refine ax_iload dX11_isLook_66 rfl ?_
      refine ax_i2l dX11_isLook_68 ?_
      refine ax_lload_n (i := 3) dX11_isLook_69 rfl rfl ?_
      refine ax_lcmp dX11_isLook_70 ?_
      refine ax_if_gt (tgt := 78) dX11_isLook_71 (by decide) (fun c_71 => ?_) (fun c_71 => ?_)
      · refine ax_iconst (v := 0) dX11_isLook_78 (by decide) ?_
        refine ax_iret dX11_isLook_79 rfl rfl ?_
        rw [lg_cmp_gt] at c_71
        exact h0 (fun z => z.2.2.1.elim (fun w => w c4_23) (fun w => absurd c_71 (Int64.not_lt.mpr w)))
      · refine ax_iconst (v := 1) dX11_isLook_74 (by decide) ?_
        refine ax_goto (tgt := 79) dX11_isLook_75 (by decide) ?_
        refine ax_iret dX11_isLook_79 rfl rfl ?_
        rw [lg_cmp_gt] at c_71
        exact h1 ⟨⟨by rw [c4_23]; decide, by rw [c4_23]; decide⟩, Or.inl c_2, Or.inr (Int64.not_lt.mp c_71), Or.inl (by rw [c4_23]; decide), Or.inl (by rw [c4_23]; decide)⟩
    · refine ax_tableIn (tgt := 64) (off := 41) dX11_isLook_23 (by rw [c4_23]; decide) (by rw [c4_23]; decide) (by rw [c4_23]; decide) (by decide) ?_
      refine ax_iconst (v := 1) dX11_isLook_64 (by decide) ?_
      refine ax_iret dX11_isLook_65 rfl rfl ?_
      exact h1 ⟨⟨by rw [c4_23]; decide, by rw [c4_23]; decide⟩, Or.inl c_2, Or.inl (by rw [c4_23]; decide), Or.inl (by rw [c4_23]; decide), Or.inl (by rw [c4_23]; decide)⟩
    · refine ax_tableIn (tgt := 80) (off := 57) dX11_isLook_23 (by rw [c4_23]; decide) (by rw [c4_23]; decide) (by rw [c4_23]; decide) (by decide) ?_
      refine ax_iload dX11_isLook_80 rfl ?_
      refine ax_iconst (v := 1) dX11_isLook_82 (by decide) ?_
      refine ax_bipush (v := 100) dX11_isLook_83 (by decide) ?_
      refine ax_invS (n := 3) (As := [_, _, _]) dX11_isLook_85 cb_X11_isWithin cs_X11_71.1 cs_X11_71.2 rfl ⟨Nat.le_of_ble_eq_true rfl, Nat.le_of_ble_eq_true rfl⟩ (Nat.le_of_ble_eq_true rfl) rfl (c_isWithin (fun c_85 => ?_) (fun c_85 => ?_))
      · refine ax_iret dX11_isLook_88 rfl rfl ?_
        exact h1 ⟨⟨by rw [c4_23]; decide, by rw [c4_23]; decide⟩, Or.inl c_2, Or.inl (by rw [c4_23]; decide), Or.inr c_85, Or.inl (by rw [c4_23]; decide)⟩
      · refine ax_iret dX11_isLook_88 rfl rfl ?_
        exact h0 (fun z => z.2.2.2.1.elim (fun w => w c4_23) c_85)
    · refine ax_tableIn (tgt := 64) (off := 41) dX11_isLook_23 (by rw [c4_23]; decide) (by rw [c4_23]; decide) (by rw [c4_23]; decide) (by decide) ?_
      refine ax_iconst (v := 1) dX11_isLook_64 (by decide) ?_
      refine ax_iret dX11_isLook_65 rfl rfl ?_
      exact h1 ⟨⟨by rw [c4_23]; decide, by rw [c4_23]; decide⟩, Or.inl c_2, Or.inl (by rw [c4_23]; decide), Or.inl (by rw [c4_23]; decide), Or.inl (by rw [c4_23]; decide)⟩
    · refine ax_tableIn (tgt := 64) (off := 41) dX11_isLook_23 (by rw [c4_23]; decide) (by rw [c4_23]; decide) (by rw [c4_23]; decide) (by decide) ?_
      refine ax_iconst (v := 1) dX11_isLook_64 (by decide) ?_
      refine ax_iret dX11_isLook_65 rfl rfl ?_
      exact h1 ⟨⟨by rw [c4_23]; decide, by rw [c4_23]; decide⟩, Or.inl c_2, Or.inl (by rw [c4_23]; decide), Or.inl (by rw [c4_23]; decide), Or.inl (by rw [c4_23]; decide)⟩
    · refine ax_tableIn (tgt := 89) (off := 66) dX11_isLook_23 (by rw [c4_23]; decide) (by rw [c4_23]; decide) (by rw [c4_23]; decide) (by decide) ?_
      refine ax_lload_n (i := 3) dX11_isLook_89 rfl rfl ?_
      refine ax_lconst (v := 0) dX11_isLook_90 (by decide) ?_
      refine ax_lcmp dX11_isLook_91 ?_
      refine ax_if_lt (tgt := 129) dX11_isLook_92 (by decide) (fun c_92 => ?_) (fun c_92 => ?_)
      · refine ax_iconst (v := 0) dX11_isLook_129 (by decide) ?_
        refine ax_iret dX11_isLook_130 rfl rfl ?_
        rw [lg_cmp_lt] at c_92
        exact h0 (fun z => z.2.2.2.2.elim (fun w => w c4_23) (fun w => absurd c_92 (Int64.not_lt.mpr w.1.1)))
      · refine ax_lload_n (i := 3) dX11_isLook_95 rfl rfl ?_
        refine ax_aload_n (i := 0) dX11_isLook_96 rfl rfl rfl ?_
        refine ax_getR dX11_isLook_97 fl_X11_16 rfl rfl rfl (R.tow.1 1 (by decide)) ?_
        refine ax_invV (c := 0) (n := 0) (As := []) dX11_isLook_100 cb_Jx4a65c_size_8abf5 cv_X11_75.1 cv_X11_75.2.1 cv_X11_75.2.2 rfl (by decide) rfl ⟨Nat.le_of_ble_eq_true rfl, Nat.le_of_ble_eq_true rfl⟩ (Nat.le_of_ble_eq_true rfl) rfl (t_lsSize (q := 1) (by decide) (R.lq (by decide)) (R.lst.2.1) (Nat.lt_of_le_of_lt (mS_b R.mI (k := 6) (b := 16) (by decide)) (by decide)) ?_)
        refine ax_i2l dX11_isLook_103 ?_
        refine ax_lcmp dX11_isLook_104 ?_
        refine ax_if_ge (tgt := 129) dX11_isLook_105 (by decide) (fun c_105 => ?_) (fun c_105 => ?_)
        · refine ax_iconst (v := 0) dX11_isLook_129 (by decide) ?_
          refine ax_iret dX11_isLook_130 rfl rfl ?_
          rw [← Int32.not_lt, lg_cmp_lt, lt_pred64 (by omega), ← eR] at c_105
          exact h0 (fun z => z.2.2.2.2.elim (fun w => w c4_23) (fun w => c_105 w.1.2))
        · refine ax_iload dX11_isLook_108 rfl ?_
          refine ax_if_lt (tgt := 129) dX11_isLook_110 (by decide) (fun c_110 => ?_) (fun c_110 => ?_)
          · refine ax_iconst (v := 0) dX11_isLook_129 (by decide) ?_
            refine ax_iret dX11_isLook_130 rfl rfl ?_
            exact h0 (fun z => z.2.2.2.2.elim (fun w => w c4_23) (fun w => Int32.not_lt.mpr w.2.1 c_110))
          · refine ax_iload dX11_isLook_113 rfl ?_
            refine ax_aload_n (i := 0) dX11_isLook_115 rfl rfl rfl ?_
            refine ax_getR dX11_isLook_116 fl_X11_16 rfl rfl rfl (R.tow.1 1 (by decide)) ?_
            refine ax_invV (c := 0) (n := 0) (As := []) dX11_isLook_119 cb_Jx4a65c_size_8abf5 cv_X11_75.1 cv_X11_75.2.1 cv_X11_75.2.2 rfl (by decide) rfl ⟨Nat.le_of_ble_eq_true rfl, Nat.le_of_ble_eq_true rfl⟩ (Nat.le_of_ble_eq_true rfl) rfl (t_lsSize (q := 1) (by decide) (R.lq (by decide)) (R.lst.2.1) (Nat.lt_of_le_of_lt (mS_b R.mI (k := 6) (b := 16) (by decide)) (by decide)) ?_)
            refine ax_icmp_ge (tgt := 129) dX11_isLook_122 (by decide) (fun c_122 => ?_) (fun c_122 => ?_)
            · refine ax_iconst (v := 0) dX11_isLook_129 (by decide) ?_
              refine ax_iret dX11_isLook_130 rfl rfl ?_
              exact h0 (fun z => z.2.2.2.2.elim (fun w => w c4_23) (fun w => Int32.not_lt.mpr c_122 (by rw [← eR]; exact w.2.2)))
            · refine ax_iconst (v := 1) dX11_isLook_125 (by decide) ?_
              refine ax_goto (tgt := 130) dX11_isLook_126 (by decide) ?_
              refine ax_iret dX11_isLook_130 rfl rfl ?_
              rw [lg_cmp_lt] at c_92
              rw [← Int32.not_lt, lg_cmp_lt, lt_pred64 (by omega), ← eR] at c_105
              exact h1 ⟨⟨by rw [c4_23]; decide, by rw [c4_23]; decide⟩, Or.inl c_2, Or.inl (by rw [c4_23]; decide), Or.inl (by rw [c4_23]; decide), Or.inr ⟨⟨Int64.not_lt.mp c_92, Classical.not_not.mp c_105⟩, Int32.not_lt.mp c_110, by rw [eR]; exact Int32.not_le.mp c_122⟩⟩
  · refine ax_iload_n (i := 1) dX11_isLook_5 rfl rfl ?_
    refine ax_iconst (v := 5) dX11_isLook_6 (by decide) ?_
    refine ax_icmp_gt (tgt := 22) dX11_isLook_7 (by decide) (fun c_7 => ?_) (fun c_7 => ?_)
    · refine ax_iload_n (i := 1) dX11_isLook_22 rfl rfl ?_
      rcases (by omega : k.toInt < 0 ∨ 0 ≤ k.toInt) with c_23 | c_23
      · refine ax_tableOut (tgt := 131) dX11_isLook_23 (Or.inl c_23) (by decide) ?_
        refine ax_iconst (v := 0) dX11_isLook_131 (by decide) ?_
        refine ax_iret dX11_isLook_132 rfl rfl ?_
        exact h0 (fun z => not_to c_23 z.1.1)
      rcases (by omega : 6 < k.toInt ∨ k.toInt ≤ 6) with c2_23 | c2_23
      · refine ax_tableOut (tgt := 131) dX11_isLook_23 (Or.inr c2_23) (by decide) ?_
        refine ax_iconst (v := 0) dX11_isLook_131 (by decide) ?_
        refine ax_iret dX11_isLook_132 rfl rfl ?_
        exact h0 (fun z => not_to6 c2_23 z.1.2)
      have c3_23 : k = 0 ∨ k = 1 ∨ k = 2 ∨ k = 3 ∨ k = 4 ∨ k = 5 ∨ k = 6 := by have h1 := c_23; have h2 := c2_23; exact sw_7 h1 h2
      rcases c3_23 with c4_23 | c4_23 | c4_23 | c4_23 | c4_23 | c4_23 | c4_23
      · refine ax_tableIn (tgt := 64) (off := 41) dX11_isLook_23 (by rw [c4_23]; decide) (by rw [c4_23]; decide) (by rw [c4_23]; decide) (by decide) ?_
        refine ax_iconst (v := 1) dX11_isLook_64 (by decide) ?_
        refine ax_iret dX11_isLook_65 rfl rfl ?_
        exact h1 ⟨⟨by rw [c4_23]; decide, by rw [c4_23]; decide⟩, Or.inr (Or.inl c_7), Or.inl (by rw [c4_23]; decide), Or.inl (by rw [c4_23]; decide), Or.inl (by rw [c4_23]; decide)⟩
      · refine ax_tableIn (tgt := 66) (off := 43) dX11_isLook_23 (by rw [c4_23]; decide) (by rw [c4_23]; decide) (by rw [c4_23]; decide) (by decide) ?_
        refine ax_iload dX11_isLook_66 rfl ?_
        refine ax_i2l dX11_isLook_68 ?_
        refine ax_lload_n (i := 3) dX11_isLook_69 rfl rfl ?_
        refine ax_lcmp dX11_isLook_70 ?_
        refine ax_if_gt (tgt := 78) dX11_isLook_71 (by decide) (fun c_71 => ?_) (fun c_71 => ?_)
        · refine ax_iconst (v := 0) dX11_isLook_78 (by decide) ?_
          refine ax_iret dX11_isLook_79 rfl rfl ?_
          rw [lg_cmp_gt] at c_71
          exact h0 (fun z => z.2.2.1.elim (fun w => w c4_23) (fun w => absurd c_71 (Int64.not_lt.mpr w)))
        · refine ax_iconst (v := 1) dX11_isLook_74 (by decide) ?_
          refine ax_goto (tgt := 79) dX11_isLook_75 (by decide) ?_
          refine ax_iret dX11_isLook_79 rfl rfl ?_
          rw [lg_cmp_gt] at c_71
          exact h1 ⟨⟨by rw [c4_23]; decide, by rw [c4_23]; decide⟩, Or.inr (Or.inl c_7), Or.inr (Int64.not_lt.mp c_71), Or.inl (by rw [c4_23]; decide), Or.inl (by rw [c4_23]; decide)⟩
      · refine ax_tableIn (tgt := 64) (off := 41) dX11_isLook_23 (by rw [c4_23]; decide) (by rw [c4_23]; decide) (by rw [c4_23]; decide) (by decide) ?_
        refine ax_iconst (v := 1) dX11_isLook_64 (by decide) ?_
        refine ax_iret dX11_isLook_65 rfl rfl ?_
        exact h1 ⟨⟨by rw [c4_23]; decide, by rw [c4_23]; decide⟩, Or.inr (Or.inl c_7), Or.inl (by rw [c4_23]; decide), Or.inl (by rw [c4_23]; decide), Or.inl (by rw [c4_23]; decide)⟩
      · refine ax_tableIn (tgt := 80) (off := 57) dX11_isLook_23 (by rw [c4_23]; decide) (by rw [c4_23]; decide) (by rw [c4_23]; decide) (by decide) ?_
        refine ax_iload dX11_isLook_80 rfl ?_
        refine ax_iconst (v := 1) dX11_isLook_82 (by decide) ?_
        refine ax_bipush (v := 100) dX11_isLook_83 (by decide) ?_
        refine ax_invS (n := 3) (As := [_, _, _]) dX11_isLook_85 cb_X11_isWithin cs_X11_71.1 cs_X11_71.2 rfl ⟨Nat.le_of_ble_eq_true rfl, Nat.le_of_ble_eq_true rfl⟩ (Nat.le_of_ble_eq_true rfl) rfl (c_isWithin (fun c_85 => ?_) (fun c_85 => ?_))
        · refine ax_iret dX11_isLook_88 rfl rfl ?_
          exact h1 ⟨⟨by rw [c4_23]; decide, by rw [c4_23]; decide⟩, Or.inr (Or.inl c_7), Or.inl (by rw [c4_23]; decide), Or.inr c_85, Or.inl (by rw [c4_23]; decide)⟩
        · refine ax_iret dX11_isLook_88 rfl rfl ?_
          exact h0 (fun z => z.2.2.2.1.elim (fun w => w c4_23) c_85)
      · refine ax_tableIn (tgt := 64) (off := 41) dX11_isLook_23 (by rw [c4_23]; decide) (by rw [c4_23]; decide) (by rw [c4_23]; decide) (by decide) ?_
        refine ax_iconst (v := 1) dX11_isLook_64 (by decide) ?_
        refine ax_iret dX11_isLook_65 rfl rfl ?_
        exact h1 ⟨⟨by rw [c4_23]; decide, by rw [c4_23]; decide⟩, Or.inr (Or.inl c_7), Or.inl (by rw [c4_23]; decide), Or.inl (by rw [c4_23]; decide), Or.inl (by rw [c4_23]; decide)⟩
      · refine ax_tableIn (tgt := 64) (off := 41) dX11_isLook_23 (by rw [c4_23]; decide) (by rw [c4_23]; decide) (by rw [c4_23]; decide) (by decide) ?_
        refine ax_iconst (v := 1) dX11_isLook_64 (by decide) ?_
        refine ax_iret dX11_isLook_65 rfl rfl ?_
        exact h1 ⟨⟨by rw [c4_23]; decide, by rw [c4_23]; decide⟩, Or.inr (Or.inl c_7), Or.inl (by rw [c4_23]; decide), Or.inl (by rw [c4_23]; decide), Or.inl (by rw [c4_23]; decide)⟩
      · refine ax_tableIn (tgt := 89) (off := 66) dX11_isLook_23 (by rw [c4_23]; decide) (by rw [c4_23]; decide) (by rw [c4_23]; decide) (by decide) ?_
        refine ax_lload_n (i := 3) dX11_isLook_89 rfl rfl ?_
        refine ax_lconst (v := 0) dX11_isLook_90 (by decide) ?_
        refine ax_lcmp dX11_isLook_91 ?_
        refine ax_if_lt (tgt := 129) dX11_isLook_92 (by decide) (fun c_92 => ?_) (fun c_92 => ?_)
        · refine ax_iconst (v := 0) dX11_isLook_129 (by decide) ?_
          refine ax_iret dX11_isLook_130 rfl rfl ?_
          rw [lg_cmp_lt] at c_92
          exact h0 (fun z => z.2.2.2.2.elim (fun w => w c4_23) (fun w => absurd c_92 (Int64.not_lt.mpr w.1.1)))
        · refine ax_lload_n (i := 3) dX11_isLook_95 rfl rfl ?_
          refine ax_aload_n (i := 0) dX11_isLook_96 rfl rfl rfl ?_
          refine ax_getR dX11_isLook_97 fl_X11_16 rfl rfl rfl (R.tow.1 1 (by decide)) ?_
          refine ax_invV (c := 0) (n := 0) (As := []) dX11_isLook_100 cb_Jx4a65c_size_8abf5 cv_X11_75.1 cv_X11_75.2.1 cv_X11_75.2.2 rfl (by decide) rfl ⟨Nat.le_of_ble_eq_true rfl, Nat.le_of_ble_eq_true rfl⟩ (Nat.le_of_ble_eq_true rfl) rfl (t_lsSize (q := 1) (by decide) (R.lq (by decide)) (R.lst.2.1) (Nat.lt_of_le_of_lt (mS_b R.mI (k := 6) (b := 16) (by decide)) (by decide)) ?_)
          refine ax_i2l dX11_isLook_103 ?_
          refine ax_lcmp dX11_isLook_104 ?_
          refine ax_if_ge (tgt := 129) dX11_isLook_105 (by decide) (fun c_105 => ?_) (fun c_105 => ?_)
          · refine ax_iconst (v := 0) dX11_isLook_129 (by decide) ?_
            refine ax_iret dX11_isLook_130 rfl rfl ?_
            rw [← Int32.not_lt, lg_cmp_lt, lt_pred64 (by omega), ← eR] at c_105
            exact h0 (fun z => z.2.2.2.2.elim (fun w => w c4_23) (fun w => c_105 w.1.2))
          · refine ax_iload dX11_isLook_108 rfl ?_
            refine ax_if_lt (tgt := 129) dX11_isLook_110 (by decide) (fun c_110 => ?_) (fun c_110 => ?_)
            · refine ax_iconst (v := 0) dX11_isLook_129 (by decide) ?_
              refine ax_iret dX11_isLook_130 rfl rfl ?_
              exact h0 (fun z => z.2.2.2.2.elim (fun w => w c4_23) (fun w => Int32.not_lt.mpr w.2.1 c_110))
            · refine ax_iload dX11_isLook_113 rfl ?_
              refine ax_aload_n (i := 0) dX11_isLook_115 rfl rfl rfl ?_
              refine ax_getR dX11_isLook_116 fl_X11_16 rfl rfl rfl (R.tow.1 1 (by decide)) ?_
              refine ax_invV (c := 0) (n := 0) (As := []) dX11_isLook_119 cb_Jx4a65c_size_8abf5 cv_X11_75.1 cv_X11_75.2.1 cv_X11_75.2.2 rfl (by decide) rfl ⟨Nat.le_of_ble_eq_true rfl, Nat.le_of_ble_eq_true rfl⟩ (Nat.le_of_ble_eq_true rfl) rfl (t_lsSize (q := 1) (by decide) (R.lq (by decide)) (R.lst.2.1) (Nat.lt_of_le_of_lt (mS_b R.mI (k := 6) (b := 16) (by decide)) (by decide)) ?_)
              refine ax_icmp_ge (tgt := 129) dX11_isLook_122 (by decide) (fun c_122 => ?_) (fun c_122 => ?_)
              · refine ax_iconst (v := 0) dX11_isLook_129 (by decide) ?_
                refine ax_iret dX11_isLook_130 rfl rfl ?_
                exact h0 (fun z => z.2.2.2.2.elim (fun w => w c4_23) (fun w => Int32.not_lt.mpr c_122 (by rw [← eR]; exact w.2.2)))
              · refine ax_iconst (v := 1) dX11_isLook_125 (by decide) ?_
                refine ax_goto (tgt := 130) dX11_isLook_126 (by decide) ?_
                refine ax_iret dX11_isLook_130 rfl rfl ?_
                rw [lg_cmp_lt] at c_92
                rw [← Int32.not_lt, lg_cmp_lt, lt_pred64 (by omega), ← eR] at c_105
                exact h1 ⟨⟨by rw [c4_23]; decide, by rw [c4_23]; decide⟩, Or.inr (Or.inl c_7), Or.inl (by rw [c4_23]; decide), Or.inl (by rw [c4_23]; decide), Or.inr ⟨⟨Int64.not_lt.mp c_92, Classical.not_not.mp c_105⟩, Int32.not_lt.mp c_110, by rw [eR]; exact Int32.not_le.mp c_122⟩⟩
    · refine ax_iload_n (i := 2) dX11_isLook_10 rfl rfl ?_
      refine ax_iconst (v := 1) dX11_isLook_11 (by decide) ?_
      refine ax_bipush (v := 20) dX11_isLook_12 (by decide) ?_
      refine ax_invS (n := 3) (As := [_, _, _]) dX11_isLook_14 cb_X11_isWithin cs_X11_71.1 cs_X11_71.2 rfl ⟨Nat.le_of_ble_eq_true rfl, Nat.le_of_ble_eq_true rfl⟩ (Nat.le_of_ble_eq_true rfl) rfl (c_isWithin (fun c_14 => ?_) (fun c_14 => ?_))
      · refine ax_if_ne (tgt := 22) dX11_isLook_17 (by decide) (fun _ => ?_) (fun z => absurd (by decide) z)
        refine ax_iload_n (i := 1) dX11_isLook_22 rfl rfl ?_
        rcases (by omega : k.toInt < 0 ∨ 0 ≤ k.toInt) with c_23 | c_23
        · refine ax_tableOut (tgt := 131) dX11_isLook_23 (Or.inl c_23) (by decide) ?_
          refine ax_iconst (v := 0) dX11_isLook_131 (by decide) ?_
          refine ax_iret dX11_isLook_132 rfl rfl ?_
          exact h0 (fun z => not_to c_23 z.1.1)
        rcases (by omega : 6 < k.toInt ∨ k.toInt ≤ 6) with c2_23 | c2_23
        · refine ax_tableOut (tgt := 131) dX11_isLook_23 (Or.inr c2_23) (by decide) ?_
          refine ax_iconst (v := 0) dX11_isLook_131 (by decide) ?_
          refine ax_iret dX11_isLook_132 rfl rfl ?_
          exact h0 (fun z => not_to6 c2_23 z.1.2)
        have c3_23 : k = 0 ∨ k = 1 ∨ k = 2 ∨ k = 3 ∨ k = 4 ∨ k = 5 ∨ k = 6 := by have h1 := c_23; have h2 := c2_23; exact sw_7 h1 h2
        rcases c3_23 with c4_23 | c4_23 | c4_23 | c4_23 | c4_23 | c4_23 | c4_23
        · refine ax_tableIn (tgt := 64) (off := 41) dX11_isLook_23 (by rw [c4_23]; decide) (by rw [c4_23]; decide) (by rw [c4_23]; decide) (by decide) ?_
          refine ax_iconst (v := 1) dX11_isLook_64 (by decide) ?_
          refine ax_iret dX11_isLook_65 rfl rfl ?_
          exact h1 ⟨⟨by rw [c4_23]; decide, by rw [c4_23]; decide⟩, Or.inr (Or.inr c_14), Or.inl (by rw [c4_23]; decide), Or.inl (by rw [c4_23]; decide), Or.inl (by rw [c4_23]; decide)⟩
        · refine ax_tableIn (tgt := 66) (off := 43) dX11_isLook_23 (by rw [c4_23]; decide) (by rw [c4_23]; decide) (by rw [c4_23]; decide) (by decide) ?_
          refine ax_iload dX11_isLook_66 rfl ?_
          refine ax_i2l dX11_isLook_68 ?_
          refine ax_lload_n (i := 3) dX11_isLook_69 rfl rfl ?_
          refine ax_lcmp dX11_isLook_70 ?_
          refine ax_if_gt (tgt := 78) dX11_isLook_71 (by decide) (fun c_71 => ?_) (fun c_71 => ?_)
          · refine ax_iconst (v := 0) dX11_isLook_78 (by decide) ?_
            refine ax_iret dX11_isLook_79 rfl rfl ?_
            rw [lg_cmp_gt] at c_71
            exact h0 (fun z => z.2.2.1.elim (fun w => w c4_23) (fun w => absurd c_71 (Int64.not_lt.mpr w)))
          · refine ax_iconst (v := 1) dX11_isLook_74 (by decide) ?_
            refine ax_goto (tgt := 79) dX11_isLook_75 (by decide) ?_
            refine ax_iret dX11_isLook_79 rfl rfl ?_
            rw [lg_cmp_gt] at c_71
            exact h1 ⟨⟨by rw [c4_23]; decide, by rw [c4_23]; decide⟩, Or.inr (Or.inr c_14), Or.inr (Int64.not_lt.mp c_71), Or.inl (by rw [c4_23]; decide), Or.inl (by rw [c4_23]; decide)⟩
        · refine ax_tableIn (tgt := 64) (off := 41) dX11_isLook_23 (by rw [c4_23]; decide) (by rw [c4_23]; decide) (by rw [c4_23]; decide) (by decide) ?_
          refine ax_iconst (v := 1) dX11_isLook_64 (by decide) ?_
          refine ax_iret dX11_isLook_65 rfl rfl ?_
          exact h1 ⟨⟨by rw [c4_23]; decide, by rw [c4_23]; decide⟩, Or.inr (Or.inr c_14), Or.inl (by rw [c4_23]; decide), Or.inl (by rw [c4_23]; decide), Or.inl (by rw [c4_23]; decide)⟩
        · refine ax_tableIn (tgt := 80) (off := 57) dX11_isLook_23 (by rw [c4_23]; decide) (by rw [c4_23]; decide) (by rw [c4_23]; decide) (by decide) ?_
          refine ax_iload dX11_isLook_80 rfl ?_
          refine ax_iconst (v := 1) dX11_isLook_82 (by decide) ?_
          refine ax_bipush (v := 100) dX11_isLook_83 (by decide) ?_
          refine ax_invS (n := 3) (As := [_, _, _]) dX11_isLook_85 cb_X11_isWithin cs_X11_71.1 cs_X11_71.2 rfl ⟨Nat.le_of_ble_eq_true rfl, Nat.le_of_ble_eq_true rfl⟩ (Nat.le_of_ble_eq_true rfl) rfl (c_isWithin (fun c_85 => ?_) (fun c_85 => ?_))
          · refine ax_iret dX11_isLook_88 rfl rfl ?_
            exact h1 ⟨⟨by rw [c4_23]; decide, by rw [c4_23]; decide⟩, Or.inr (Or.inr c_14), Or.inl (by rw [c4_23]; decide), Or.inr c_85, Or.inl (by rw [c4_23]; decide)⟩
          · refine ax_iret dX11_isLook_88 rfl rfl ?_
            exact h0 (fun z => z.2.2.2.1.elim (fun w => w c4_23) c_85)
        · refine ax_tableIn (tgt := 64) (off := 41) dX11_isLook_23 (by rw [c4_23]; decide) (by rw [c4_23]; decide) (by rw [c4_23]; decide) (by decide) ?_
          refine ax_iconst (v := 1) dX11_isLook_64 (by decide) ?_
          refine ax_iret dX11_isLook_65 rfl rfl ?_
          exact h1 ⟨⟨by rw [c4_23]; decide, by rw [c4_23]; decide⟩, Or.inr (Or.inr c_14), Or.inl (by rw [c4_23]; decide), Or.inl (by rw [c4_23]; decide), Or.inl (by rw [c4_23]; decide)⟩
        · refine ax_tableIn (tgt := 64) (off := 41) dX11_isLook_23 (by rw [c4_23]; decide) (by rw [c4_23]; decide) (by rw [c4_23]; decide) (by decide) ?_
          refine ax_iconst (v := 1) dX11_isLook_64 (by decide) ?_
          refine ax_iret dX11_isLook_65 rfl rfl ?_
          exact h1 ⟨⟨by rw [c4_23]; decide, by rw [c4_23]; decide⟩, Or.inr (Or.inr c_14), Or.inl (by rw [c4_23]; decide), Or.inl (by rw [c4_23]; decide), Or.inl (by rw [c4_23]; decide)⟩
        · refine ax_tableIn (tgt := 89) (off := 66) dX11_isLook_23 (by rw [c4_23]; decide) (by rw [c4_23]; decide) (by rw [c4_23]; decide) (by decide) ?_
          refine ax_lload_n (i := 3) dX11_isLook_89 rfl rfl ?_
          refine ax_lconst (v := 0) dX11_isLook_90 (by decide) ?_
          refine ax_lcmp dX11_isLook_91 ?_
          refine ax_if_lt (tgt := 129) dX11_isLook_92 (by decide) (fun c_92 => ?_) (fun c_92 => ?_)
          · refine ax_iconst (v := 0) dX11_isLook_129 (by decide) ?_
            refine ax_iret dX11_isLook_130 rfl rfl ?_
            rw [lg_cmp_lt] at c_92
            exact h0 (fun z => z.2.2.2.2.elim (fun w => w c4_23) (fun w => absurd c_92 (Int64.not_lt.mpr w.1.1)))
          · refine ax_lload_n (i := 3) dX11_isLook_95 rfl rfl ?_
            refine ax_aload_n (i := 0) dX11_isLook_96 rfl rfl rfl ?_
            refine ax_getR dX11_isLook_97 fl_X11_16 rfl rfl rfl (R.tow.1 1 (by decide)) ?_
            refine ax_invV (c := 0) (n := 0) (As := []) dX11_isLook_100 cb_Jx4a65c_size_8abf5 cv_X11_75.1 cv_X11_75.2.1 cv_X11_75.2.2 rfl (by decide) rfl ⟨Nat.le_of_ble_eq_true rfl, Nat.le_of_ble_eq_true rfl⟩ (Nat.le_of_ble_eq_true rfl) rfl (t_lsSize (q := 1) (by decide) (R.lq (by decide)) (R.lst.2.1) (Nat.lt_of_le_of_lt (mS_b R.mI (k := 6) (b := 16) (by decide)) (by decide)) ?_)
            refine ax_i2l dX11_isLook_103 ?_
            refine ax_lcmp dX11_isLook_104 ?_
            refine ax_if_ge (tgt := 129) dX11_isLook_105 (by decide) (fun c_105 => ?_) (fun c_105 => ?_)
            · refine ax_iconst (v := 0) dX11_isLook_129 (by decide) ?_
              refine ax_iret dX11_isLook_130 rfl rfl ?_
              rw [← Int32.not_lt, lg_cmp_lt, lt_pred64 (by omega), ← eR] at c_105
              exact h0 (fun z => z.2.2.2.2.elim (fun w => w c4_23) (fun w => c_105 w.1.2))
            · refine ax_iload dX11_isLook_108 rfl ?_
              refine ax_if_lt (tgt := 129) dX11_isLook_110 (by decide) (fun c_110 => ?_) (fun c_110 => ?_)
              · refine ax_iconst (v := 0) dX11_isLook_129 (by decide) ?_
                refine ax_iret dX11_isLook_130 rfl rfl ?_
                exact h0 (fun z => z.2.2.2.2.elim (fun w => w c4_23) (fun w => Int32.not_lt.mpr w.2.1 c_110))
              · refine ax_iload dX11_isLook_113 rfl ?_
                refine ax_aload_n (i := 0) dX11_isLook_115 rfl rfl rfl ?_
                refine ax_getR dX11_isLook_116 fl_X11_16 rfl rfl rfl (R.tow.1 1 (by decide)) ?_
                refine ax_invV (c := 0) (n := 0) (As := []) dX11_isLook_119 cb_Jx4a65c_size_8abf5 cv_X11_75.1 cv_X11_75.2.1 cv_X11_75.2.2 rfl (by decide) rfl ⟨Nat.le_of_ble_eq_true rfl, Nat.le_of_ble_eq_true rfl⟩ (Nat.le_of_ble_eq_true rfl) rfl (t_lsSize (q := 1) (by decide) (R.lq (by decide)) (R.lst.2.1) (Nat.lt_of_le_of_lt (mS_b R.mI (k := 6) (b := 16) (by decide)) (by decide)) ?_)
                refine ax_icmp_ge (tgt := 129) dX11_isLook_122 (by decide) (fun c_122 => ?_) (fun c_122 => ?_)
                · refine ax_iconst (v := 0) dX11_isLook_129 (by decide) ?_
                  refine ax_iret dX11_isLook_130 rfl rfl ?_
                  exact h0 (fun z => z.2.2.2.2.elim (fun w => w c4_23) (fun w => Int32.not_lt.mpr c_122 (by rw [← eR]; exact w.2.2)))
                · refine ax_iconst (v := 1) dX11_isLook_125 (by decide) ?_
                  refine ax_goto (tgt := 130) dX11_isLook_126 (by decide) ?_
                  refine ax_iret dX11_isLook_130 rfl rfl ?_
                  rw [lg_cmp_lt] at c_92
                  rw [← Int32.not_lt, lg_cmp_lt, lt_pred64 (by omega), ← eR] at c_105
                  exact h1 ⟨⟨by rw [c4_23]; decide, by rw [c4_23]; decide⟩, Or.inr (Or.inr c_14), Or.inl (by rw [c4_23]; decide), Or.inl (by rw [c4_23]; decide), Or.inr ⟨⟨Int64.not_lt.mp c_92, Classical.not_not.mp c_105⟩, Int32.not_lt.mp c_110, by rw [eR]; exact Int32.not_le.mp c_122⟩⟩
      · refine ax_if_ne (tgt := 22) dX11_isLook_17 (by decide) (fun z => absurd z (by decide)) (fun _ => ?_)
        refine ax_iconst (v := 0) dX11_isLook_20 (by decide) ?_
        refine ax_iret dX11_isLook_21 rfl rfl ?_
        exact h0 (fun z => z.2.1.elim c_2 (fun w => w.elim c_7 c_14))
set_option maxHeartbeats 400000 in
set_option maxRecDepth 100000 in
theorem c_isManner {E : awE} {S : awS} {Q : Option Value → awS → Nat → Nat → Prop} {x : Int32} (h1 : mannerOk x → Q (some (.int 1)) S 0 0) (h0 : ¬ mannerOk x → Q (some (.int 0)) S 0 0) : awT true E m_X11_isManner [.int x] S Q := by
  refine awT.of (by decide) (by decide) (Nat.le_of_ble_eq_true rfl) ?_
  refine ax_iload_n (i := 0) dX11_isManner_0 rfl rfl ?_
  refine ax_bipush (v := 100) dX11_isManner_1 (by decide) ?_
  refine ax_irem dX11_isManner_3 (by decide) ?_
  refine ax_iconst (v := 1) dX11_isManner_4 (by decide) ?_
  refine ax_bipush (v := 10) dX11_isManner_5 (by decide) ?_
  refine ax_invS (n := 3) (As := [_, _, _]) dX11_isManner_7 cb_X11_isWithin cs_X11_71.1 cs_X11_71.2 rfl ⟨Nat.le_of_ble_eq_true rfl, Nat.le_of_ble_eq_true rfl⟩ (Nat.le_of_ble_eq_true rfl) rfl (c_isWithin (fun c_7 => ?_) (fun c_7 => ?_))
  · refine ax_if_eq (tgt := 46) dX11_isManner_10 (by decide) (fun z => absurd z (by decide)) (fun _ => ?_)
    refine ax_iload_n (i := 0) dX11_isManner_13 rfl rfl ?_
    refine ax_bipush (v := 100) dX11_isManner_14 (by decide) ?_
    refine ax_idiv dX11_isManner_16 (by decide) ?_
    refine ax_bipush (v := 100) dX11_isManner_17 (by decide) ?_
    refine ax_irem dX11_isManner_19 (by decide) ?_
    refine ax_iconst (v := 1) dX11_isManner_20 (by decide) ?_
    refine ax_bipush (v := 10) dX11_isManner_21 (by decide) ?_
    refine ax_invS (n := 3) (As := [_, _, _]) dX11_isManner_23 cb_X11_isWithin cs_X11_71.1 cs_X11_71.2 rfl ⟨Nat.le_of_ble_eq_true rfl, Nat.le_of_ble_eq_true rfl⟩ (Nat.le_of_ble_eq_true rfl) rfl (c_isWithin (fun c_23 => ?_) (fun c_23 => ?_))
    · refine ax_if_eq (tgt := 46) dX11_isManner_26 (by decide) (fun z => absurd z (by decide)) (fun _ => ?_)
      refine ax_iload_n (i := 0) dX11_isManner_29 rfl rfl ?_
      refine ax_sipush (v := 10000) dX11_isManner_30 (by decide) ?_
      refine ax_idiv dX11_isManner_33 (by decide) ?_
      refine ax_iconst (v := 1) dX11_isManner_34 (by decide) ?_
      refine ax_iconst (v := 5) dX11_isManner_35 (by decide) ?_
      refine ax_invS (n := 3) (As := [_, _, _]) dX11_isManner_36 cb_X11_isWithin cs_X11_71.1 cs_X11_71.2 rfl ⟨Nat.le_of_ble_eq_true rfl, Nat.le_of_ble_eq_true rfl⟩ (Nat.le_of_ble_eq_true rfl) rfl (c_isWithin (fun c_36 => ?_) (fun c_36 => ?_))
      · refine ax_if_eq (tgt := 46) dX11_isManner_39 (by decide) (fun z => absurd z (by decide)) (fun _ => ?_)
        refine ax_iconst (v := 1) dX11_isManner_42 (by decide) ?_
        refine ax_goto (tgt := 47) dX11_isManner_43 (by decide) ?_
        refine ax_iret dX11_isManner_47 rfl rfl ?_
        exact h1 ⟨c_7, c_23, c_36⟩
      · refine ax_if_eq (tgt := 46) dX11_isManner_39 (by decide) (fun _ => ?_) (fun z => absurd (by decide) z)
        refine ax_iconst (v := 0) dX11_isManner_46 (by decide) ?_
        refine ax_iret dX11_isManner_47 rfl rfl ?_
        exact h0 (fun z => c_36 z.2.2)
    · refine ax_if_eq (tgt := 46) dX11_isManner_26 (by decide) (fun _ => ?_) (fun z => absurd (by decide) z)
      refine ax_iconst (v := 0) dX11_isManner_46 (by decide) ?_
      refine ax_iret dX11_isManner_47 rfl rfl ?_
      exact h0 (fun z => c_23 z.2.1)
  · refine ax_if_eq (tgt := 46) dX11_isManner_10 (by decide) (fun _ => ?_) (fun z => absurd (by decide) z)
    refine ax_iconst (v := 0) dX11_isManner_46 (by decide) ?_
    refine ax_iret dX11_isManner_47 rfl rfl ?_
    exact h0 (fun z => c_7 z.1)
set_option maxHeartbeats 400000 in
set_option maxRecDepth 100000 in
theorem c_iWat {E : awE} {S : awS} {Q : Option Value → awS → Nat → Nat → Prop} {w : Nat} (h : Q none (wR (wNew (wR (wI (wI (wI (wI S 11 w 0 (-1)) 11 w 1 (-1)) 11 w 2 0) 11 w 3 0) 11 w 4 none) 22 11) 11 w 5 (some (nm 22 (sC S 22)))) 1 11) : awT true E m_X10_init [.ref (nm 11 w)] S Q := by
  refine awT.of (by decide) (by decide) (Nat.le_of_ble_eq_true rfl) ?_
  refine ax_aload_n (i := 0) dX10_init_0 rfl rfl rfl ?_
  refine ax_objInit dX10_init_1 ki_X10_3 ko_1 ko_2 ⟨Nat.le_of_ble_eq_true rfl, Nat.le_of_ble_eq_true rfl⟩ (Nat.le_of_ble_eq_true rfl) ?_
  refine ax_aload_n (i := 0) dX10_init_4 rfl rfl rfl ?_
  refine ax_iconst (v := -1) dX10_init_5 (by decide) ?_
  refine ax_putI dX10_init_6 fl_X10_9 rfl rfl rfl (Or.inl rfl) rfl rfl ?_
  refine ax_aload_n (i := 0) dX10_init_9 rfl rfl rfl ?_
  refine ax_iconst (v := -1) dX10_init_10 (by decide) ?_
  refine ax_putI dX10_init_11 fl_X10_15 rfl rfl rfl (Or.inl rfl) rfl rfl ?_
  refine ax_aload_n (i := 0) dX10_init_14 rfl rfl rfl ?_
  refine ax_iconst (v := 0) dX10_init_15 (by decide) ?_
  refine ax_putI dX10_init_16 fl_X10_18 rfl rfl rfl (Or.inl rfl) rfl rfl ?_
  refine ax_aload_n (i := 0) dX10_init_19 rfl rfl rfl ?_
  refine ax_iconst (v := 0) dX10_init_20 (by decide) ?_
  refine ax_putI dX10_init_21 fl_X10_21 rfl rfl rfl (Or.inl rfl) rfl rfl ?_
  refine ax_aload_n (i := 0) dX10_init_24 rfl rfl rfl ?_
  refine ax_null dX10_init_25 ?_
  refine ax_putN dX10_init_26 fl_X10_24 rfl rfl rfl (Or.inl rfl) ?_
  refine ax_aload_n (i := 0) dX10_init_29 rfl rfl rfl ?_
  refine ax_bipush (v := 11) dX10_init_30 (by decide) ?_
  refine ax_newZ (f := 22) (n := 11) dX10_init_32 ka_boolean rfl rfl (by decide) (by decide) (by decide) ?_
  refine ax_putR dX10_init_34 fl_X10_28 rfl rfl rfl (Or.inr ⟨rfl, rfl, rfl⟩) ?_
  refine ax_vret dX10_init_37 rfl ?_
  exact h
def ruS (n k : Nat) (B : awS) : awS := (fun f i j => if (f = 11 ∨ f = 22) ∧ 16 * n ≤ i ∧ i < 16 * n + k then (if f = 11 ∧ (j = 0 ∨ j = 1) then -1 else 0) else B.1 f i j,
  fun f i j => if (f = 11 ∨ f = 22) ∧ 16 * n ≤ i ∧ i < 16 * n + k then 0 else B.2.1 f i j,
  fun f i j => if f = 18 ∧ i = n ∧ j < k then some (nm 11 (16 * n + j)) else if (f = 11 ∨ f = 22) ∧ 16 * n ≤ i ∧ i < 16 * n + k then (if f = 11 ∧ j = 5 then some (nm 22 i) else none) else B.2.2.1 f i j,
  fun f => if f = 11 ∨ f = 22 then 16 * n + k else B.2.2.2.1 f,
  fun f i => if (f = 11 ∨ f = 22) ∧ 16 * n ≤ i ∧ i < 16 * n + k then (if f = 22 then 11 else 0) else B.2.2.2.2.1 f i,
  B.2.2.2.2.2)
set_option maxHeartbeats 4000000 in
theorem ruS_0 {n : Nat} {B : awS} (h1 : sC B 11 = 16 * n) (h2 : sC B 22 = 16 * n) : ruS n 0 B = B := by
  unfold sC at h1 h2
  unfold ruS
  refine Prod.ext ?_ (Prod.ext ?_ (Prod.ext ?_ (Prod.ext ?_ (Prod.ext ?_ rfl))))
  · funext f i j
    dsimp only
    rw [if_neg (by omega)]
  · funext f i j
    dsimp only
    rw [if_neg (by omega)]
  · funext f i j
    dsimp only
    rw [if_neg (by omega), if_neg (by omega)]
  · funext f
    dsimp only
    by_cases c : f = 11 ∨ f = 22
    · rw [if_pos c]
      rcases c with e | e
      · rw [e, h1]; rfl
      · rw [e, h2]; rfl
    · rw [if_neg c]
  · funext f i
    dsimp only
    rw [if_neg (by omega)]
def watS (A : awS) (w : Nat) : awS := wR (wNew (wR (wI (wI (wI (wI (wNew A 11 0) 11 w 0 (-1)) 11 w 1 (-1)) 11 w 2 0) 11 w 3 0) 11 w 4 none) 22 11) 11 w 5 (some (nm 22 (sC A 22)))
set_option maxHeartbeats 4000000 in
theorem ruS_1 {n k : Nat} {B : awS} : wR (watS (ruS n k B) (16 * n + k)) 18 n k (some (nm 11 (16 * n + k))) = ruS n (k + 1) B := by
  unfold watS ruS
  refine Prod.ext ?_ (Prod.ext ?_ (Prod.ext ?_ (Prod.ext ?_ (Prod.ext ?_ rfl))))
  · funext f i j
    unfold wR wI wNew u3 sC
    dsimp only
    by_cases c1 : f = 11
    · subst c1
      by_cases c2 : i = 16 * n + k
      · subst c2
        simp <;> grind
      · simp [c2]
        grind
    · by_cases c3 : f = 22
      · subst c3
        by_cases c2 : i = 16 * n + k
        · subst c2
          simp
        · simp [c2]
          grind
      · simp [c1, c3]
  · funext f i j
    unfold wR wI wNew u3 sC
    dsimp only
    grind
  · funext f i j
    unfold wR wI wNew u3 sC
    dsimp only
    by_cases c1 : f = 11
    · subst c1
      by_cases c2 : i = 16 * n + k
      · subst c2
        simp <;> grind
      · simp [c2]
        grind
    · by_cases c3 : f = 22
      · subst c3
        by_cases c2 : i = 16 * n + k
        · subst c2
          simp
        · simp [c2]
          grind
      · simp [c1, c3]
        grind
  · funext f
    unfold wR wI wNew u3 sC
    dsimp only
    grind
  · funext f i
    unfold wR wI wNew u3 sC
    dsimp only
    grind

