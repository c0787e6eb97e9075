theorem okB_e {d : Int32} (h : okBoard d) : d = nI (nN d) ∧ nN d < 8 := rg_of h.1 h.2 (by decide)
theorem mA_keepI (d k : Nat) (w : Int32) (i : Nat) (M : aM) (f j : Nat) : mA (mKeepI d k w i M) f j = mA M f j := rfl
theorem mS_keepI (d k : Nat) (w : Int32) (i : Nat) (M : aM) (f : Nat) : mS (mKeepI d k w i M) f = mS M f := rfl
theorem mKeep_fr (d k : Nat) (w : Int32) (M : aM) : ∀ n, (∀ f j, mA (mIter (mKeepI d k w) n M) f j = mA M f j) ∧ ∀ f, mS (mIter (mKeepI d k w) n M) f = mS M f
  | 0 => ⟨fun _ _ => rfl, fun _ => rfl⟩
  | n + 1 => ⟨fun f j => (mKeep_fr d k w M n).1 f j, fun f => (mKeep_fr d k w M n).2 f⟩
theorem keep_t {c z i : Nat} (h : z ≤ c) : nI c - nI z + 1 + nI i = nI (c + 1 + i - z) := by
  rw [pk_sub h, nI_1, nI_add]
  exact congrArg nI (by omega)

set_option maxHeartbeats 4000000 in
set_option maxRecDepth 100000 in
theorem keep_2 {b : Bool} {E : awE} {S : awS} {M1 : aM} {Q : Option Value → awS → Nat → Nat → Prop} (hm : mOk S) {d k z : Nat} {wh : Int32} (hz : mA M1 80 d = nI z) (hd : d < 8) (hz60 : z ≤ 60) (hc : mS M1 1 = nI (mN M1 1)) (hcb : mN M1 1 ≤ 400) (hzc : z ≤ mN M1 1) (hk0 : 0 < z → k < 16) (h : Q (some (.int 0)) (putM S (mIter (mKeepI d k wh) z M1)) 0 0) : awX b E m_X12_keep 122 [(5, .int (nI 0)), (0, .ref (nm 13 0)), (1, .int (nI d)), (2, .int wh), (3, .int (nI k)), (4, .int 1)] [] (putM S M1) 0 0 Q := by
  have L : ∀ (m i : Nat), i + m = z → awX b E m_X12_keep 122 [(5, .int (nI i)), (0, .ref (nm 13 0)), (1, .int (nI d)), (2, .int wh), (3, .int (nI k)), (4, .int 1)] [] (putM S (mIter (mKeepI d k wh) i M1)) 0 0 Q := by
    intro m
    induction m with
    | zero =>
      intro i hm1 
      have fr := mKeep_fr d k wh M1 i
      generalize hN : mIter (mKeepI d k wh) i M1 = N at fr ⊢
      refine ax_iload dX12_keep_122 rfl ?_
      refine ax_aload_n (i := 0) dX12_keep_124 rfl rfl rfl ?_
      refine ax_mR hm dX12_keep_125 fl_X12_216 rfl (by decide) ?_
      refine ax_iload_n (i := 1) dX12_keep_128 rfl rfl ?_
      refine ax_mIN (N := 8) hm dX12_keep_129 rfl rfl (by decide) (by omega) ?_
      refine ax_top (show mA N 80 d = nI z from (fr.1 _ _).trans hz) ?_
      refine ax_icmp_ge (tgt := 205) dX12_keep_130 (by decide) (fun c_130 => ?_) (fun c_130 => ?_)
      · have hi2 : i = z := Nat.le_antisymm (by omega) (ge_of_n rfl c_130 (by omega))
        subst hi2
        refine ax_iconst (v := 0) dX12_keep_205 (by decide) ?_
        refine ax_iret dX12_keep_206 rfl rfl ?_
        rw [← hN]
        exact h
      · exact absurd (lt_of_n rfl c_130 (by omega)) (by omega)
    | succ m ih =>
      intro i hm1 
      have fr := mKeep_fr d k wh M1 i
      have hk : k < 16 := hk0 (by omega)
      generalize hN : mIter (mKeepI d k wh) i M1 = N at fr ⊢
      refine ax_iload dX12_keep_122 rfl ?_
      refine ax_aload_n (i := 0) dX12_keep_124 rfl rfl rfl ?_
      refine ax_mR hm dX12_keep_125 fl_X12_216 rfl (by decide) ?_
      refine ax_iload_n (i := 1) dX12_keep_128 rfl rfl ?_
      refine ax_mIN (N := 8) hm dX12_keep_129 rfl rfl (by decide) (by omega) ?_
      refine ax_top (show mA N 80 d = nI z from (fr.1 _ _).trans hz) ?_
      refine ax_icmp_ge (tgt := 205) dX12_keep_130 (by decide) (fun c_130 => ?_) (fun c_130 => ?_)
      · exact absurd (ge_of_n rfl c_130 (by omega)) (by omega)
      · have hi2 : i < z := lt_of_n rfl c_130 (by omega)
        have e1 : mN N 1 = mN M1 1 := by unfold mN; rw [fr.2]
        have e2 : mE N 80 d = z := by unfold mE; rw [fr.1, hz]; exact nI_clamp (by omega)
        refine ax_aload_n (i := 0) dX12_keep_133 rfl rfl rfl ?_
        refine ax_mS dX12_keep_134 fl_X12_262 rfl ?_
        refine ax_top (show mS N 1 = nI (mN M1 1) from (fr.2 _).trans hc) ?_
        refine ax_aload_n (i := 0) dX12_keep_137 rfl rfl rfl ?_
        refine ax_mR hm dX12_keep_138 fl_X12_216 rfl (by decide) ?_
        refine ax_iload_n (i := 1) dX12_keep_141 rfl rfl ?_
        refine ax_mIN (N := 8) hm dX12_keep_142 rfl rfl (by decide) (by omega) ?_
        refine ax_top (show mA N 80 d = nI z from (fr.1 _ _).trans hz) ?_
        refine ax_isub dX12_keep_143 ?_
        refine ax_iconst (v := 1) dX12_keep_144 (by decide) ?_
        refine ax_iadd dX12_keep_145 ?_
        refine ax_iload dX12_keep_146 rfl ?_
        refine ax_iadd dX12_keep_148 ?_
        refine ax_top (keep_t hzc) ?_
        refine ax_istore (lv' := [(6, _), (5, _), (0, _), (1, _), (2, _), (3, _), (4, _)]) dX12_keep_149 (by decide) rfl ?_
        refine ax_aload_n (i := 0) dX12_keep_151 rfl rfl rfl ?_
        refine ax_mR hm dX12_keep_152 fl_X12_222 rfl (by decide) ?_
        refine ax_bipush (v := nI 60) dX12_keep_155 (by decide) ?_
        refine ax_iload_n (i := 1) dX12_keep_157 rfl rfl ?_
        refine ax_imulN dX12_keep_158 ?_
        refine ax_iload dX12_keep_159 rfl ?_
        refine ax_iaddN dX12_keep_161 ?_
        refine ax_aload_n (i := 0) dX12_keep_162 rfl rfl rfl ?_
        refine ax_iload_n (i := 3) dX12_keep_163 rfl rfl ?_
        refine ax_iload dX12_keep_164 rfl ?_
        refine ax_invV (c := 13) (n := 2) (As := [_, _]) dX12_keep_166 cb_X12_has cv_X12_306.1 cv_X12_306.2.1 cv_X12_306.2.2 rfl (by decide) rfl ⟨Nat.le_of_ble_eq_true rfl, Nat.le_of_ble_eq_true rfl⟩ (Nat.le_of_ble_eq_true rfl) rfl (t_has hm hk (Or.inl ⟨rfl, by omega⟩) (fun c_166 => ?_) (fun c_166 => ?_))
        · refine ax_if_ne (tgt := 176) dX12_keep_169 (by decide) (fun _ => ?_) (fun z => absurd (by decide) z)
          refine ax_iload_n (i := 2) dX12_keep_176 rfl rfl ?_
          refine ax_iconst (v := 3) dX12_keep_177 (by decide) ?_
          refine ax_icmp_ne (tgt := 197) dX12_keep_178 (by decide) (fun c_178 => ?_) (fun c_178 => ?_)
          · refine ax_lconst (v := 1) dX12_keep_197 (by decide) ?_
            refine ax_mPJN (N := 480) hm dX12_keep_198 rfl rfl (by decide) (by omega) ?_
            refine ax_mE (M2 := mIter (mKeepI d k wh) (i + 1) M1) (by rw [show mIter (mKeepI d k wh) (i + 1) M1 = mKeepI d k wh i N by rw [← hN]; rfl]; unfold mKeepI; simp only [e1, e2]; rw [show iC (¬ mHas N k (mN M1 1 + 1 + i - z)) (0 : Int64) (if wh = 3 then mVal N k (mN M1 1 + 1 + i - z) else 1) = 1 from (iC_f (fun z => z c_166)).trans (if_neg c_178)]) ?_
            refine ax_iinc (v := _ + 1) (lv' := [(5, _), (6, _), (0, .ref (nm 13 0)), (1, _), (2, _), (3, _), (4, _)]) dX12_keep_199 rfl rfl (by decide) rfl ?_
            refine ax_goto (tgt := 122) dX12_keep_202 (by decide) ?_
            rw [nI_1]
            exact ax_loc rfl (ih (i + 1) (by omega))
          · refine ax_aload_n (i := 0) dX12_keep_181 rfl rfl rfl ?_
            refine ax_mR hm dX12_keep_182 fl_X12_13 rfl (by decide) ?_
            refine ax_sipush (v := nI 401) dX12_keep_185 (by decide) ?_
            refine ax_iload_n (i := 3) dX12_keep_188 rfl rfl ?_
            refine ax_imulN dX12_keep_189 ?_
            refine ax_iload dX12_keep_190 rfl ?_
            refine ax_iaddN dX12_keep_192 ?_
            refine ax_mJN (N := 6416) hm dX12_keep_193 rfl rfl (by decide) (by omega) ?_
            refine ax_goto (tgt := 198) dX12_keep_194 (by decide) ?_
            refine ax_mPJN (N := 480) hm dX12_keep_198 rfl rfl (by decide) (by omega) ?_
            refine ax_mE (M2 := mIter (mKeepI d k wh) (i + 1) M1) (by rw [show mIter (mKeepI d k wh) (i + 1) M1 = mKeepI d k wh i N by rw [← hN]; rfl]; unfold mKeepI; simp only [e1, e2]; rw [show iC (¬ mHas N k (mN M1 1 + 1 + i - z)) (0 : Int64) (if wh = 3 then mVal N k (mN M1 1 + 1 + i - z) else 1) = mVal N k (mN M1 1 + 1 + i - z) from (iC_f (fun z => z c_166)).trans (if_pos (Classical.not_not.mp c_178))]; rfl) ?_
            refine ax_iinc (v := _ + 1) (lv' := [(5, _), (6, _), (0, .ref (nm 13 0)), (1, _), (2, _), (3, _), (4, _)]) dX12_keep_199 rfl rfl (by decide) rfl ?_
            refine ax_goto (tgt := 122) dX12_keep_202 (by decide) ?_
            rw [nI_1]
            exact ax_loc rfl (ih (i + 1) (by omega))
        · refine ax_if_ne (tgt := 176) dX12_keep_169 (by decide) (fun z => absurd z (by decide)) (fun _ => ?_)
          refine ax_lconst (v := 0) dX12_keep_172 (by decide) ?_
          refine ax_goto (tgt := 198) dX12_keep_173 (by decide) ?_
          refine ax_mPJN (N := 480) hm dX12_keep_198 rfl rfl (by decide) (by omega) ?_
          refine ax_mE (M2 := mIter (mKeepI d k wh) (i + 1) M1) (by rw [show mIter (mKeepI d k wh) (i + 1) M1 = mKeepI d k wh i N by rw [← hN]; rfl]; unfold mKeepI; simp only [e1, e2]; rw [show iC (¬ mHas N k (mN M1 1 + 1 + i - z)) (0 : Int64) (if wh = 3 then mVal N k (mN M1 1 + 1 + i - z) else 1) = 0 from iC_t c_166]) ?_
          refine ax_iinc (v := _ + 1) (lv' := [(5, _), (6, _), (0, .ref (nm 13 0)), (1, _), (2, _), (3, _), (4, _)]) dX12_keep_199 rfl rfl (by decide) rfl ?_
          refine ax_goto (tgt := 122) dX12_keep_202 (by decide) ?_
          rw [nI_1]
          exact ax_loc rfl (ih (i + 1) (by omega))
  exact L z 0 (by omega)

set_option maxHeartbeats 4000000 in
set_option maxRecDepth 100000 in
theorem keep_0 {b : Bool} {E : awE} {S : awS} {M1 : aM} {Q : Option Value → awS → Nat → Nat → Prop} (hm : mOk S) {d : Nat} {wh k : Int32} (hz : mA M1 80 d = 0) (hd : d < 8) (h : Q (some (.int 0)) (putM S M1) 0 0) : awX b E m_X12_keep 122 [(5, .int (nI 0)), (0, .ref (nm 13 0)), (1, .int (nI d)), (2, .int wh), (3, .int k), (4, .int 1)] [] (putM S M1) 0 0 Q := by
  refine ax_iload dX12_keep_122 rfl ?_
  refine ax_aload_n (i := 0) dX12_keep_124 rfl rfl rfl ?_
  refine ax_mR hm dX12_keep_125 fl_X12_216 rfl (by decide) ?_
  refine ax_iload_n (i := 1) dX12_keep_128 rfl rfl ?_
  refine ax_mIN (N := 8) hm dX12_keep_129 rfl rfl (by decide) (by omega) ?_
  refine ax_top hz ?_
  refine ax_icmp_ge (tgt := 205) dX12_keep_130 (by decide) (fun c_130 => ?_) (fun c_130 => ?_)
  · refine ax_iconst (v := 0) dX12_keep_205 (by decide) ?_
    refine ax_iret dX12_keep_206 rfl rfl ?_
    exact h
  · exact absurd (show (0 : Int32) ≤ nI 0 from by decide) c_130
abbrev kpGood (M : aM) (d what k : Int32) : Prop := okBoard d ∧ (0 ≤ what ∧ what ≤ 4) ∧ (¬ what = 1 ∨ (0 ≤ k ∧ k ≤ mS M 30 - 1)) ∧ (what < 3 ∨ okSource M k)
def mKeepA (M : aM) (d : Nat) (what k z : Int32) : aM := pA (pA (pA (mT0 M) 79 d what) 81 d k) 80 d z
theorem mKeep_1 {M : aM} {d what k : Int32} (g : kpGood M d what k) (c : what < 3) : mKeep M d what k = (mKeepA M (nN d) what k 0, 0) := by
  unfold mKeep
  rw [if_neg (fun z => z g)]
  simp only [if_pos c]
  have e : mE (pA (pA (pA (mT0 M) 79 (nN d) what) 81 (nN d) k) 80 (nN d) 0) 80 (nN d) = 0 := by unfold mE; rw [mA_set]; rfl
  rw [e]
  rfl
theorem mKeep_2 {M : aM} {d what k : Int32} {z : Nat} (g : kpGood M d what k) (c : ¬ what < 3) (hz : (if mS M 1 < 60 then mS M 1 else 60) = nI z) (hzb : z ≤ 60) : mKeep M d what k = (mIter (mKeepI (nN d) (nN k) what) z (mKeepA M (nN d) what k (nI z)), 0) := by
  unfold mKeep
  rw [if_neg (fun z => z g)]
  simp only [if_neg c, hz]
  have e : mE (pA (pA (pA (mT0 M) 79 (nN d) what) 81 (nN d) k) 80 (nN d) (nI z)) 80 (nN d) = z := by unfold mE; rw [mA_set]; exact nI_clamp (by omega)
  rw [e]
  rfl
theorem nI_60 (n : Nat) (h : n ≤ 400) : (nI n < 60 ↔ n < 60) := ⟨fun z => nI_slt (b := 60) z (by omega), fun z => nI_lt (b := 60) z (by decide)⟩

set_option maxHeartbeats 4000000 in
set_option maxRecDepth 100000 in
theorem t_keep {b : Bool} {E : awE} {S : awS} {M : aM} {Q : Option Value → awS → Nat → Nat → Prop} (hm : mOk S) (hI : mI M) (d : Int32) (wh : Int32) (k : Int32) (h : Q (some (.int (mKeep M d wh k).2)) (putM S (mKeep M d wh k).1) 0 0) : awT b E m_X12_keep [.ref (nm 13 0), .int d, .int wh, .int k] (putM S M) Q := by
  refine awT.of (by decide) (by decide) (Nat.le_of_ble_eq_true rfl) ?_
  refine ax_aload_n (i := 0) dX12_keep_0 rfl rfl rfl ?_
  refine ax_iconst (v := 0) dX12_keep_1 (by decide) ?_
  refine ax_mPS dX12_keep_2 fl_X12_228 rfl rfl ?_
  refine ax_mE (M2 := mT0 M) rfl ?_
  refine ax_iload_n (i := 1) dX12_keep_5 rfl rfl ?_
  refine ax_invS (n := 1) (As := [_]) dX12_keep_6 cb_X12_isBoard cs_X12_395.1 cs_X12_395.2 rfl ⟨Nat.le_of_ble_eq_true rfl, Nat.le_of_ble_eq_true rfl⟩ (Nat.le_of_ble_eq_true rfl) rfl (t_isBoard (fun c_6 => ?_) (fun c_6 => ?_))
  · refine ax_if_eq (tgt := 62) dX12_keep_9 (by decide) (fun z => absurd z (by decide)) (fun _ => ?_)
    refine ax_iload_n (i := 2) dX12_keep_12 rfl rfl ?_
    refine ax_i2l dX12_keep_13 ?_
    refine ax_lconst (v := 0) dX12_keep_14 (by decide) ?_
    refine ax_ldc2 dX12_keep_15 kc_X12_398 ?_
    refine ax_invS (n := 3) (As := [_, _, _]) dX12_keep_18 cb_X12_isIn cs_X12_242.1 cs_X12_242.2 rfl ⟨Nat.le_of_ble_eq_true rfl, Nat.le_of_ble_eq_true rfl⟩ (Nat.le_of_ble_eq_true rfl) rfl (t_isInI (lo := (0)) (hi := (4)) (fun c_18 => ?_) (fun c_18 => ?_))
    · refine ax_if_eq (tgt := 62) dX12_keep_21 (by decide) (fun z => absurd z (by decide)) (fun _ => ?_)
      refine ax_iload_n (i := 2) dX12_keep_24 rfl rfl ?_
      refine ax_iconst (v := 1) dX12_keep_25 (by decide) ?_
      refine ax_icmp_ne (tgt := 45) dX12_keep_26 (by decide) (fun c_26 => ?_) (fun c_26 => ?_)
      · refine ax_iload_n (i := 2) dX12_keep_45 rfl rfl ?_
        refine ax_iconst (v := 3) dX12_keep_46 (by decide) ?_
        refine ax_icmp_lt (tgt := 58) dX12_keep_47 (by decide) (fun c_47 => ?_) (fun c_47 => ?_)
        · refine ax_iconst (v := 1) dX12_keep_58 (by decide) ?_
          refine ax_goto (tgt := 63) dX12_keep_59 (by decide) ?_
          refine ax_istore (lv' := [(4, _), (0, _), (1, _), (2, _), (3, _)]) dX12_keep_63 (by decide) rfl ?_
          refine ax_iload dX12_keep_65 rfl ?_
          refine ax_if_ne (tgt := 72) dX12_keep_67 (by decide) (fun _ => ?_) (fun z => absurd (by decide) z)
          have e_d := okB_e c_6
          have e_db := e_d.2
          rw [e_d.1]
          refine ax_aload_n (i := 0) dX12_keep_72 rfl rfl rfl ?_
          refine ax_mR hm dX12_keep_73 fl_X12_213 rfl (by decide) ?_
          refine ax_iload_n (i := 1) dX12_keep_76 rfl rfl ?_
          refine ax_iload_n (i := 2) dX12_keep_77 rfl rfl ?_
          refine ax_mPIN (N := 8) hm dX12_keep_78 rfl rfl (by decide) (by omega) ?_
          refine ax_aload_n (i := 0) dX12_keep_79 rfl rfl rfl ?_
          refine ax_mR hm dX12_keep_80 fl_X12_219 rfl (by decide) ?_
          refine ax_iload_n (i := 1) dX12_keep_83 rfl rfl ?_
          refine ax_iload_n (i := 3) dX12_keep_84 rfl rfl ?_
          refine ax_mPIN (N := 8) hm dX12_keep_85 rfl rfl (by decide) (by omega) ?_
          refine ax_aload_n (i := 0) dX12_keep_86 rfl rfl rfl ?_
          refine ax_mR hm dX12_keep_87 fl_X12_216 rfl (by decide) ?_
          refine ax_iload_n (i := 1) dX12_keep_90 rfl rfl ?_
          refine ax_iload_n (i := 2) dX12_keep_91 rfl rfl ?_
          refine ax_iconst (v := 3) dX12_keep_92 (by decide) ?_
          refine ax_icmp_ge (tgt := 100) dX12_keep_93 (by decide) (fun c_93 => ?_) (fun c_93 => ?_)
          · refine ax_aload_n (i := 0) dX12_keep_100 rfl rfl rfl ?_
            refine ax_mS dX12_keep_101 fl_X12_262 rfl ?_
            refine ax_bipush (v := 60) dX12_keep_104 (by decide) ?_
            refine ax_icmp_ge (tgt := 116) dX12_keep_106 (by decide) (fun c_106 => ?_) (fun c_106 => ?_)
            · refine ax_bipush (v := 60) dX12_keep_116 (by decide) ?_
              refine ax_mPIN (N := 8) hm dX12_keep_118 rfl rfl (by decide) (by omega) ?_
              refine ax_iconst (v := nI 0) dX12_keep_119 (by decide) ?_
              refine ax_istore (lv' := [(5, _), (4, _), (0, _), (1, _), (2, _), (3, _)]) dX12_keep_120 (by decide) rfl ?_
              exact absurd c_47 (Int32.not_lt.mpr c_93)
            · refine ax_aload_n (i := 0) dX12_keep_109 rfl rfl rfl ?_
              refine ax_mS dX12_keep_110 fl_X12_262 rfl ?_
              refine ax_goto (tgt := 118) dX12_keep_113 (by decide) ?_
              refine ax_mPIN (N := 8) hm dX12_keep_118 rfl rfl (by decide) (by omega) ?_
              refine ax_iconst (v := nI 0) dX12_keep_119 (by decide) ?_
              refine ax_istore (lv' := [(5, _), (4, _), (0, _), (1, _), (2, _), (3, _)]) dX12_keep_120 (by decide) rfl ?_
              exact absurd c_47 (Int32.not_lt.mpr c_93)
          · refine ax_iconst (v := 0) dX12_keep_96 (by decide) ?_
            refine ax_goto (tgt := 118) dX12_keep_97 (by decide) ?_
            refine ax_mPIN (N := 8) hm dX12_keep_118 rfl rfl (by decide) (by omega) ?_
            refine ax_iconst (v := nI 0) dX12_keep_119 (by decide) ?_
            refine ax_istore (lv' := [(5, _), (4, _), (0, _), (1, _), (2, _), (3, _)]) dX12_keep_120 (by decide) rfl ?_
            have c3 : wh < 3 := Int32.not_le.mp c_93
            rw [mKeep_1 (M := M) ⟨c_6, c_18, Or.inl c_26, Or.inl c_47⟩ c3] at h
            refine ax_mE (M2 := mKeepA M (nN d) wh k 0) rfl ?_
            exact ax_loc rfl (keep_0 (M1 := mKeepA M (nN d) wh k 0) hm (mA_set _ _ _ _) (by omega) h)
        · refine ax_aload_n (i := 0) dX12_keep_50 rfl rfl rfl ?_
          refine ax_iload_n (i := 3) dX12_keep_51 rfl rfl ?_
          refine ax_invV (c := 13) (n := 1) (As := [_]) dX12_keep_52 cb_X12_isSource cv_X12_299.1 cv_X12_299.2.1 cv_X12_299.2.2 rfl (by decide) rfl ⟨Nat.le_of_ble_eq_true rfl, Nat.le_of_ble_eq_true rfl⟩ (Nat.le_of_ble_eq_true rfl) rfl (t_isSource (fun c_52 => ?_) (fun c_52 => ?_))
          · refine ax_if_eq (tgt := 62) dX12_keep_55 (by decide) (fun z => absurd z (by decide)) (fun _ => ?_)
            refine ax_iconst (v := 1) dX12_keep_58 (by decide) ?_
            refine ax_goto (tgt := 63) dX12_keep_59 (by decide) ?_
            refine ax_istore (lv' := [(4, _), (0, _), (1, _), (2, _), (3, _)]) dX12_keep_63 (by decide) rfl ?_
            refine ax_iload dX12_keep_65 rfl ?_
            refine ax_if_ne (tgt := 72) dX12_keep_67 (by decide) (fun _ => ?_) (fun z => absurd (by decide) z)
            have e_d := okB_e c_6
            have e_db := e_d.2
            rw [e_d.1]
            refine ax_aload_n (i := 0) dX12_keep_72 rfl rfl rfl ?_
            refine ax_mR hm dX12_keep_73 fl_X12_213 rfl (by decide) ?_
            refine ax_iload_n (i := 1) dX12_keep_76 rfl rfl ?_
            refine ax_iload_n (i := 2) dX12_keep_77 rfl rfl ?_
            refine ax_mPIN (N := 8) hm dX12_keep_78 rfl rfl (by decide) (by omega) ?_
            refine ax_aload_n (i := 0) dX12_keep_79 rfl rfl rfl ?_
            refine ax_mR hm dX12_keep_80 fl_X12_219 rfl (by decide) ?_
            refine ax_iload_n (i := 1) dX12_keep_83 rfl rfl ?_
            refine ax_iload_n (i := 3) dX12_keep_84 rfl rfl ?_
            refine ax_mPIN (N := 8) hm dX12_keep_85 rfl rfl (by decide) (by omega) ?_
            refine ax_aload_n (i := 0) dX12_keep_86 rfl rfl rfl ?_
            refine ax_mR hm dX12_keep_87 fl_X12_216 rfl (by decide) ?_
            refine ax_iload_n (i := 1) dX12_keep_90 rfl rfl ?_
            refine ax_iload_n (i := 2) dX12_keep_91 rfl rfl ?_
            refine ax_iconst (v := 3) dX12_keep_92 (by decide) ?_
            refine ax_icmp_ge (tgt := 100) dX12_keep_93 (by decide) (fun c_93 => ?_) (fun c_93 => ?_)
            · refine ax_aload_n (i := 0) dX12_keep_100 rfl rfl rfl ?_
              refine ax_mS dX12_keep_101 fl_X12_262 rfl ?_
              refine ax_bipush (v := 60) dX12_keep_104 (by decide) ?_
              refine ax_icmp_ge (tgt := 116) dX12_keep_106 (by decide) (fun c_106 => ?_) (fun c_106 => ?_)
              · refine ax_bipush (v := 60) dX12_keep_116 (by decide) ?_
                refine ax_mPIN (N := 8) hm dX12_keep_118 rfl rfl (by decide) (by omega) ?_
                refine ax_iconst (v := nI 0) dX12_keep_119 (by decide) ?_
                refine ax_istore (lv' := [(5, _), (4, _), (0, _), (1, _), (2, _), (3, _)]) dX12_keep_120 (by decide) rfl ?_
                have ecb : mN M 1 ≤ 400 := mS_b hI (by decide)
                have ec : mS M 1 = nI (mN M 1) := mS_nI hI (k := 1) (b := 400) (by decide)
                have c60 : ¬ mS M 1 < 60 := Int32.not_lt.mpr c_106
                have hz60 : 60 ≤ 60 := by decide
                have hzc : 60 ≤ mN M 1 := by have q := c60; rw [ec] at q; have := mt (nI_60 _ ecb).mpr q; omega
                have ek := rg_lt c_52.1 c_52.2 (mS_nI hI (k := 2) (b := 16) (by decide)) (Nat.lt_of_le_of_lt (mS_b hI (k := 2) (b := 16) (by decide)) (by decide))
                have ekb : mN M 2 ≤ 16 := mS_b hI (by decide)
                rw [mKeep_2 (M := M) (z := 60) ⟨c_6, c_18, Or.inl c_26, Or.inr c_52⟩ (Int32.not_lt.mpr c_93) (if_neg c60) hz60] at h
                refine ax_mE (M2 := mKeepA M (nN d) wh k (nI 60)) rfl ?_
                have h2 : awX b E m_X12_keep 122 [(5, .int (nI 0)), (0, .ref (nm 13 0)), (1, .int (nI (nN d))), (2, .int wh), (3, .int (nI (nN k))), (4, .int 1)] [] (putM S (mKeepA M (nN d) wh k (nI 60))) 0 0 Q := keep_2 (M1 := mKeepA M (nN d) wh k (nI 60)) hm (mA_set _ _ _ _) (by omega) hz60 ec ecb hzc (fun _ => by omega) h
                rw [← ek.1] at h2
                exact ax_loc rfl h2
              · refine ax_aload_n (i := 0) dX12_keep_109 rfl rfl rfl ?_
                refine ax_mS dX12_keep_110 fl_X12_262 rfl ?_
                refine ax_goto (tgt := 118) dX12_keep_113 (by decide) ?_
                refine ax_mPIN (N := 8) hm dX12_keep_118 rfl rfl (by decide) (by omega) ?_
                refine ax_iconst (v := nI 0) dX12_keep_119 (by decide) ?_
                refine ax_istore (lv' := [(5, _), (4, _), (0, _), (1, _), (2, _), (3, _)]) dX12_keep_120 (by decide) rfl ?_
                have ecb : mN M 1 ≤ 400 := mS_b hI (by decide)
                have ec : mS M 1 = nI (mN M 1) := mS_nI hI (k := 1) (b := 400) (by decide)
                have c60 : mS M 1 < 60 := Int32.not_le.mp c_106
                have hz60 : mN M 1 ≤ 60 := by have q := c60; rw [ec] at q; have := (nI_60 _ ecb).mp q; omega
                have hzc : mN M 1 ≤ mN M 1 := Nat.le_refl _
                have ek := rg_lt c_52.1 c_52.2 (mS_nI hI (k := 2) (b := 16) (by decide)) (Nat.lt_of_le_of_lt (mS_b hI (k := 2) (b := 16) (by decide)) (by decide))
                have ekb : mN M 2 ≤ 16 := mS_b hI (by decide)
                rw [mKeep_2 (M := M) (z := (mN M 1)) ⟨c_6, c_18, Or.inl c_26, Or.inr c_52⟩ (Int32.not_lt.mpr c_93) ((if_pos c60).trans ec) hz60] at h
                refine ax_mE (M2 := mKeepA M (nN d) wh k (nI (mN M 1))) (by rw [← ec]; rfl) ?_
                have h2 : awX b E m_X12_keep 122 [(5, .int (nI 0)), (0, .ref (nm 13 0)), (1, .int (nI (nN d))), (2, .int wh), (3, .int (nI (nN k))), (4, .int 1)] [] (putM S (mKeepA M (nN d) wh k (nI (mN M 1)))) 0 0 Q := keep_2 (M1 := mKeepA M (nN d) wh k (nI (mN M 1))) hm (mA_set _ _ _ _) (by omega) hz60 ec ecb hzc (fun _ => by omega) h
                rw [← ek.1] at h2
                exact ax_loc rfl h2
            · refine ax_iconst (v := 0) dX12_keep_96 (by decide) ?_
              refine ax_goto (tgt := 118) dX12_keep_97 (by decide) ?_
              refine ax_mPIN (N := 8) hm dX12_keep_118 rfl rfl (by decide) (by omega) ?_
              refine ax_iconst (v := nI 0) dX12_keep_119 (by decide) ?_
              refine ax_istore (lv' := [(5, _), (4, _), (0, _), (1, _), (2, _), (3, _)]) dX12_keep_120 (by decide) rfl ?_
              have c3 : wh < 3 := Int32.not_le.mp c_93
              rw [mKeep_1 (M := M) ⟨c_6, c_18, Or.inl c_26, Or.inr c_52⟩ c3] at h
              refine ax_mE (M2 := mKeepA M (nN d) wh k 0) rfl ?_
              exact ax_loc rfl (keep_0 (M1 := mKeepA M (nN d) wh k 0) hm (mA_set _ _ _ _) (by omega) h)
          · refine ax_if_eq (tgt := 62) dX12_keep_55 (by decide) (fun _ => ?_) (fun z => absurd (by decide) z)
            refine ax_iconst (v := 0) dX12_keep_62 (by decide) ?_
            refine ax_istore (lv' := [(4, _), (0, _), (1, _), (2, _), (3, _)]) dX12_keep_63 (by decide) rfl ?_
            refine ax_iload dX12_keep_65 rfl ?_
            refine ax_if_ne (tgt := 72) dX12_keep_67 (by decide) (fun z => absurd z (by decide)) (fun _ => ?_)
            refine ax_iconst (v := -1) dX12_keep_70 (by decide) ?_
            refine ax_iret dX12_keep_71 rfl rfl ?_
            exact fin2 h (if_pos (fun g => g.2.2.2.elim (fun w => Int32.not_lt.mpr (Int32.not_lt.mp c_47) w) (fun w => c_52 w)))
      · refine ax_iload_n (i := 3) dX12_keep_29 rfl rfl ?_
        refine ax_i2l dX12_keep_30 ?_
        refine ax_lconst (v := 0) dX12_keep_31 (by decide) ?_
        refine ax_aload_n (i := 0) dX12_keep_32 rfl rfl rfl ?_
        refine ax_mS dX12_keep_33 fl_X12_284 rfl ?_
        refine ax_iconst (v := nI 1) dX12_keep_36 (by decide) ?_
        refine ax_isub dX12_keep_37 ?_
        refine ax_i2l dX12_keep_38 ?_
        refine ax_invS (n := 3) (As := [_, _, _]) dX12_keep_39 cb_X12_isIn cs_X12_242.1 cs_X12_242.2 rfl ⟨Nat.le_of_ble_eq_true rfl, Nat.le_of_ble_eq_true rfl⟩ (Nat.le_of_ble_eq_true rfl) rfl (t_isInI (lo := (0)) (hi := _) (fun c_39 => ?_) (fun c_39 => ?_))
        · refine ax_if_eq (tgt := 62) dX12_keep_42 (by decide) (fun z => absurd z (by decide)) (fun _ => ?_)
          refine ax_iload_n (i := 2) dX12_keep_45 rfl rfl ?_
          refine ax_iconst (v := 3) dX12_keep_46 (by decide) ?_
          refine ax_icmp_lt (tgt := 58) dX12_keep_47 (by decide) (fun c_47 => ?_) (fun c_47 => ?_)
          · refine ax_iconst (v := 1) dX12_keep_58 (by decide) ?_
            refine ax_goto (tgt := 63) dX12_keep_59 (by decide) ?_
            refine ax_istore (lv' := [(4, _), (0, _), (1, _), (2, _), (3, _)]) dX12_keep_63 (by decide) rfl ?_
            refine ax_iload dX12_keep_65 rfl ?_
            refine ax_if_ne (tgt := 72) dX12_keep_67 (by decide) (fun _ => ?_) (fun z => absurd (by decide) z)
            have e_d := okB_e c_6
            have e_db := e_d.2
            rw [e_d.1]
            refine ax_aload_n (i := 0) dX12_keep_72 rfl rfl rfl ?_
            refine ax_mR hm dX12_keep_73 fl_X12_213 rfl (by decide) ?_
            refine ax_iload_n (i := 1) dX12_keep_76 rfl rfl ?_
            refine ax_iload_n (i := 2) dX12_keep_77 rfl rfl ?_
            refine ax_mPIN (N := 8) hm dX12_keep_78 rfl rfl (by decide) (by omega) ?_
            refine ax_aload_n (i := 0) dX12_keep_79 rfl rfl rfl ?_
            refine ax_mR hm dX12_keep_80 fl_X12_219 rfl (by decide) ?_
            refine ax_iload_n (i := 1) dX12_keep_83 rfl rfl ?_
            refine ax_iload_n (i := 3) dX12_keep_84 rfl rfl ?_
            refine ax_mPIN (N := 8) hm dX12_keep_85 rfl rfl (by decide) (by omega) ?_
            refine ax_aload_n (i := 0) dX12_keep_86 rfl rfl rfl ?_
            refine ax_mR hm dX12_keep_87 fl_X12_216 rfl (by decide) ?_
            refine ax_iload_n (i := 1) dX12_keep_90 rfl rfl ?_
            refine ax_iload_n (i := 2) dX12_keep_91 rfl rfl ?_
            refine ax_iconst (v := 3) dX12_keep_92 (by decide) ?_
            refine ax_icmp_ge (tgt := 100) dX12_keep_93 (by decide) (fun c_93 => ?_) (fun c_93 => ?_)
            · refine ax_aload_n (i := 0) dX12_keep_100 rfl rfl rfl ?_
              refine ax_mS dX12_keep_101 fl_X12_262 rfl ?_
              refine ax_bipush (v := 60) dX12_keep_104 (by decide) ?_
              refine ax_icmp_ge (tgt := 116) dX12_keep_106 (by decide) (fun c_106 => ?_) (fun c_106 => ?_)
              · refine ax_bipush (v := 60) dX12_keep_116 (by decide) ?_
                refine ax_mPIN (N := 8) hm dX12_keep_118 rfl rfl (by decide) (by omega) ?_
                refine ax_iconst (v := nI 0) dX12_keep_119 (by decide) ?_
                refine ax_istore (lv' := [(5, _), (4, _), (0, _), (1, _), (2, _), (3, _)]) dX12_keep_120 (by decide) rfl ?_
                exact absurd c_47 (Int32.not_lt.mpr c_93)
              · refine ax_aload_n (i := 0) dX12_keep_109 rfl rfl rfl ?_
                refine ax_mS dX12_keep_110 fl_X12_262 rfl ?_
                refine ax_goto (tgt := 118) dX12_keep_113 (by decide) ?_
                refine ax_mPIN (N := 8) hm dX12_keep_118 rfl rfl (by decide) (by omega) ?_
                refine ax_iconst (v := nI 0) dX12_keep_119 (by decide) ?_
                refine ax_istore (lv' := [(5, _), (4, _), (0, _), (1, _), (2, _), (3, _)]) dX12_keep_120 (by decide) rfl ?_
                exact absurd c_47 (Int32.not_lt.mpr c_93)
            · refine ax_iconst (v := 0) dX12_keep_96 (by decide) ?_
              refine ax_goto (tgt := 118) dX12_keep_97 (by decide) ?_
              refine ax_mPIN (N := 8) hm dX12_keep_118 rfl rfl (by decide) (by omega) ?_
              refine ax_iconst (v := nI 0) dX12_keep_119 (by decide) ?_
              refine ax_istore (lv' := [(5, _), (4, _), (0, _), (1, _), (2, _), (3, _)]) dX12_keep_120 (by decide) rfl ?_
              have c3 : wh < 3 := Int32.not_le.mp c_93
              rw [mKeep_1 (M := M) ⟨c_6, c_18, Or.inr c_39, Or.inl c_47⟩ c3] at h
              refine ax_mE (M2 := mKeepA M (nN d) wh k 0) rfl ?_
              exact ax_loc rfl (keep_0 (M1 := mKeepA M (nN d) wh k 0) hm (mA_set _ _ _ _) (by omega) h)
          · refine ax_aload_n (i := 0) dX12_keep_50 rfl rfl rfl ?_
            refine ax_iload_n (i := 3) dX12_keep_51 rfl rfl ?_
            refine ax_invV (c := 13) (n := 1) (As := [_]) dX12_keep_52 cb_X12_isSource cv_X12_299.1 cv_X12_299.2.1 cv_X12_299.2.2 rfl (by decide) rfl ⟨Nat.le_of_ble_eq_true rfl, Nat.le_of_ble_eq_true rfl⟩ (Nat.le_of_ble_eq_true rfl) rfl (t_isSource (fun c_52 => ?_) (fun c_52 => ?_))
            · refine ax_if_eq (tgt := 62) dX12_keep_55 (by decide) (fun z => absurd z (by decide)) (fun _ => ?_)
              refine ax_iconst (v := 1) dX12_keep_58 (by decide) ?_
              refine ax_goto (tgt := 63) dX12_keep_59 (by decide) ?_
              refine ax_istore (lv' := [(4, _), (0, _), (1, _), (2, _), (3, _)]) dX12_keep_63 (by decide) rfl ?_
              refine ax_iload dX12_keep_65 rfl ?_
              refine ax_if_ne (tgt := 72) dX12_keep_67 (by decide) (fun _ => ?_) (fun z => absurd (by decide) z)
              have e_d := okB_e c_6
              have e_db := e_d.2
              rw [e_d.1]
              refine ax_aload_n (i := 0) dX12_keep_72 rfl rfl rfl ?_
              refine ax_mR hm dX12_keep_73 fl_X12_213 rfl (by decide) ?_
              refine ax_iload_n (i := 1) dX12_keep_76 rfl rfl ?_
              refine ax_iload_n (i := 2) dX12_keep_77 rfl rfl ?_
              refine ax_mPIN (N := 8) hm dX12_keep_78 rfl rfl (by decide) (by omega) ?_
              refine ax_aload_n (i := 0) dX12_keep_79 rfl rfl rfl ?_
              refine ax_mR hm dX12_keep_80 fl_X12_219 rfl (by decide) ?_
              refine ax_iload_n (i := 1) dX12_keep_83 rfl rfl ?_
              refine ax_iload_n (i := 3) dX12_keep_84 rfl rfl ?_
              refine ax_mPIN (N := 8) hm dX12_keep_85 rfl rfl (by decide) (by omega) ?_
              refine ax_aload_n (i := 0) dX12_keep_86 rfl rfl rfl ?_
              refine ax_mR hm dX12_keep_87 fl_X12_216 rfl (by decide) ?_
              refine ax_iload_n (i := 1) dX12_keep_90 rfl rfl ?_
              refine ax_iload_n (i := 2) dX12_keep_91 rfl rfl ?_
              refine ax_iconst (v := 3) dX12_keep_92 (by decide) ?_
              refine ax_icmp_ge (tgt := 100) dX12_keep_93 (by decide) (fun c_93 => ?_) (fun c_93 => ?_)
              · refine ax_aload_n (i := 0) dX12_keep_100 rfl rfl rfl ?_
                refine ax_mS dX12_keep_101 fl_X12_262 rfl ?_
                refine ax_bipush (v := 60) dX12_keep_104 (by decide) ?_
                refine ax_icmp_ge (tgt := 116) dX12_keep_106 (by decide) (fun c_106 => ?_) (fun c_106 => ?_)
                · refine ax_bipush (v := 60) dX12_keep_116 (by decide) ?_
                  refine ax_mPIN (N := 8) hm dX12_keep_118 rfl rfl (by decide) (by omega) ?_
                  refine ax_iconst (v := nI 0) dX12_keep_119 (by decide) ?_
                  refine ax_istore (lv' := [(5, _), (4, _), (0, _), (1, _), (2, _), (3, _)]) dX12_keep_120 (by decide) rfl ?_
                  have ecb : mN M 1 ≤ 400 := mS_b hI (by decide)
                  have ec : mS M 1 = nI (mN M 1) := mS_nI hI (k := 1) (b := 400) (by decide)
                  have c60 : ¬ mS M 1 < 60 := Int32.not_lt.mpr c_106
                  have hz60 : 60 ≤ 60 := by decide
                  have hzc : 60 ≤ mN M 1 := by have q := c60; rw [ec] at q; have := mt (nI_60 _ ecb).mpr q; omega
                  have ek := rg_lt c_52.1 c_52.2 (mS_nI hI (k := 2) (b := 16) (by decide)) (Nat.lt_of_le_of_lt (mS_b hI (k := 2) (b := 16) (by decide)) (by decide))
                  have ekb : mN M 2 ≤ 16 := mS_b hI (by decide)
                  rw [mKeep_2 (M := M) (z := 60) ⟨c_6, c_18, Or.inr c_39, Or.inr c_52⟩ (Int32.not_lt.mpr c_93) (if_neg c60) hz60] at h
                  refine ax_mE (M2 := mKeepA M (nN d) wh k (nI 60)) rfl ?_
                  have h2 : awX b E m_X12_keep 122 [(5, .int (nI 0)), (0, .ref (nm 13 0)), (1, .int (nI (nN d))), (2, .int wh), (3, .int (nI (nN k))), (4, .int 1)] [] (putM S (mKeepA M (nN d) wh k (nI 60))) 0 0 Q := keep_2 (M1 := mKeepA M (nN d) wh k (nI 60)) hm (mA_set _ _ _ _) (by omega) hz60 ec ecb hzc (fun _ => by omega) h
                  rw [← ek.1] at h2
                  exact ax_loc rfl h2
                · refine ax_aload_n (i := 0) dX12_keep_109 rfl rfl rfl ?_
                  refine ax_mS dX12_keep_110 fl_X12_262 rfl ?_
                  refine ax_goto (tgt := 118) dX12_keep_113 (by decide) ?_
                  refine ax_mPIN (N := 8) hm dX12_keep_118 rfl rfl (by decide) (by omega) ?_
                  refine ax_iconst (v := nI 0) dX12_keep_119 (by decide) ?_
                  refine ax_istore (lv' := [(5, _), (4, _), (0, _), (1, _), (2, _), (3, _)]) dX12_keep_120 (by decide) rfl ?_
                  have ecb : mN M 1 ≤ 400 := mS_b hI (by decide)
                  have ec : mS M 1 = nI (mN M 1) := mS_nI hI (k := 1) (b := 400) (by decide)
                  have c60 : mS M 1 < 60 := Int32.not_le.mp c_106
                  have hz60 : mN M 1 ≤ 60 := by have q := c60; rw [ec] at q; have := (nI_60 _ ecb).mp q; omega
                  have hzc : mN M 1 ≤ mN M 1 := Nat.le_refl _
                  have ek := rg_lt c_52.1 c_52.2 (mS_nI hI (k := 2) (b := 16) (by decide)) (Nat.lt_of_le_of_lt (mS_b hI (k := 2) (b := 16) (by decide)) (by decide))
                  have ekb : mN M 2 ≤ 16 := mS_b hI (by decide)
                  rw [mKeep_2 (M := M) (z := (mN M 1)) ⟨c_6, c_18, Or.inr c_39, Or.inr c_52⟩ (Int32.not_lt.mpr c_93) ((if_pos c60).trans ec) hz60] at h
                  refine ax_mE (M2 := mKeepA M (nN d) wh k (nI (mN M 1))) (by rw [← ec]; rfl) ?_
                  have h2 : awX b E m_X12_keep 122 [(5, .int (nI 0)), (0, .ref (nm 13 0)), (1, .int (nI (nN d))), (2, .int wh), (3, .int (nI (nN k))), (4, .int 1)] [] (putM S (mKeepA M (nN d) wh k (nI (mN M 1)))) 0 0 Q := keep_2 (M1 := mKeepA M (nN d) wh k (nI (mN M 1))) hm (mA_set _ _ _ _) (by omega) hz60 ec ecb hzc (fun _ => by omega) h
                  rw [← ek.1] at h2
                  exact ax_loc rfl h2
              · refine ax_iconst (v := 0) dX12_keep_96 (by decide) ?_
                refine ax_goto (tgt := 118) dX12_keep_97 (by decide) ?_
                refine ax_mPIN (N := 8) hm dX12_keep_118 rfl rfl (by decide) (by omega) ?_
                refine ax_iconst (v := nI 0) dX12_keep_119 (by decide) ?_
                refine ax_istore (lv' := [(5, _), (4, _), (0, _), (1, _), (2, _), (3, _)]) dX12_keep_120 (by decide) rfl ?_
                have c3 : wh < 3 := Int32.not_le.mp c_93
                rw [mKeep_1 (M := M) ⟨c_6, c_18, Or.inr c_39, Or.inr c_52⟩ c3] at h
                refine ax_mE (M2 := mKeepA M (nN d) wh k 0) rfl ?_
                exact ax_loc rfl (keep_0 (M1 := mKeepA M (nN d) wh k 0) hm (mA_set _ _ _ _) (by omega) h)
            · refine ax_if_eq (tgt := 62) dX12_keep_55 (by decide) (fun _ => ?_) (fun z => absurd (by decide) z)
              refine ax_iconst (v := 0) dX12_keep_62 (by decide) ?_
              refine ax_istore (lv' := [(4, _), (0, _), (1, _), (2, _), (3, _)]) dX12_keep_63 (by decide) rfl ?_
              refine ax_iload dX12_keep_65 rfl ?_
              refine ax_if_ne (tgt := 72) dX12_keep_67 (by decide) (fun z => absurd z (by decide)) (fun _ => ?_)
              refine ax_iconst (v := -1) dX12_keep_70 (by decide) ?_
              refine ax_iret dX12_keep_71 rfl rfl ?_
              exact fin2 h (if_pos (fun g => g.2.2.2.elim (fun w => Int32.not_lt.mpr (Int32.not_lt.mp c_47) w) (fun w => c_52 w)))
        · refine ax_if_eq (tgt := 62) dX12_keep_42 (by decide) (fun _ => ?_) (fun z => absurd (by decide) z)
          refine ax_iconst (v := 0) dX12_keep_62 (by decide) ?_
          refine ax_istore (lv' := [(4, _), (0, _), (1, _), (2, _), (3, _)]) dX12_keep_63 (by decide) rfl ?_
          refine ax_iload dX12_keep_65 rfl ?_
          refine ax_if_ne (tgt := 72) dX12_keep_67 (by decide) (fun z => absurd z (by decide)) (fun _ => ?_)
          refine ax_iconst (v := -1) dX12_keep_70 (by decide) ?_
          refine ax_iret dX12_keep_71 rfl rfl ?_
          exact fin2 h (if_pos (fun g => g.2.2.1.elim (fun w => w (Classical.not_not.mp c_26)) (fun w => c_39 w)))
    · refine ax_if_eq (tgt := 62) dX12_keep_21 (by decide) (fun _ => ?_) (fun z => absurd (by decide) z)
      refine ax_iconst (v := 0) dX12_keep_62 (by decide) ?_
      refine ax_istore (lv' := [(4, _), (0, _), (1, _), (2, _), (3, _)]) dX12_keep_63 (by decide) rfl ?_
      refine ax_iload dX12_keep_65 rfl ?_
      refine ax_if_ne (tgt := 72) dX12_keep_67 (by decide) (fun z => absurd z (by decide)) (fun _ => ?_)
      refine ax_iconst (v := -1) dX12_keep_70 (by decide) ?_
      refine ax_iret dX12_keep_71 rfl rfl ?_
      exact fin2 h (if_pos (fun g => c_18 g.2.1))
  · refine ax_if_eq (tgt := 62) dX12_keep_9 (by decide) (fun _ => ?_) (fun z => absurd (by decide) z)
    refine ax_iconst (v := 0) dX12_keep_62 (by decide) ?_
    refine ax_istore (lv' := [(4, _), (0, _), (1, _), (2, _), (3, _)]) dX12_keep_63 (by decide) rfl ?_
    refine ax_iload dX12_keep_65 rfl ?_
    refine ax_if_ne (tgt := 72) dX12_keep_67 (by decide) (fun z => absurd z (by decide)) (fun _ => ?_)
    refine ax_iconst (v := -1) dX12_keep_70 (by decide) ?_
    refine ax_iret dX12_keep_71 rfl rfl ?_
    exact fin2 h (if_pos (fun g => c_6 g.1))
set_option maxHeartbeats 4000000 in
set_option maxRecDepth 100000 in
theorem t_make {b : Bool} {E : awE} {S : awS} {M : aM} {Q : Option Value → awS → Nat → Nat → Prop} (hm : mOk S) (hI : mI M) (d : Int32) (wh : Int32) (n : Int32) (h : Q (some (.int (mMake M d wh n).2)) (putM S (mMake M d wh n).1) 0 0) : awT b E m_X12_make [.ref (nm 13 0), .int d, .int wh, .int n] (putM S M) Q := by
  refine awT.of (by decide) (by decide) (Nat.le_of_ble_eq_true rfl) ?_
  refine ax_aload_n (i := 0) dX12_make_0 rfl rfl rfl ?_
  refine ax_iconst (v := 0) dX12_make_1 (by decide) ?_
  refine ax_mPS dX12_make_2 fl_X12_228 rfl rfl ?_
  refine ax_mE (M2 := mT0 M) rfl ?_
  refine ax_iload_n (i := 1) dX12_make_5 rfl rfl ?_
  refine ax_invS (n := 1) (As := [_]) dX12_make_6 cb_X12_isBoard cs_X12_395.1 cs_X12_395.2 rfl ⟨Nat.le_of_ble_eq_true rfl, Nat.le_of_ble_eq_true rfl⟩ (Nat.le_of_ble_eq_true rfl) rfl (t_isBoard (fun c_6 => ?_) (fun c_6 => ?_))
  · refine ax_if_eq (tgt := 32) dX12_make_9 (by decide) (fun z => absurd z (by decide)) (fun _ => ?_)
    refine ax_iload_n (i := 2) dX12_make_12 rfl rfl ?_
    refine ax_i2l dX12_make_13 ?_
    refine ax_ldc2 dX12_make_14 kc_X12_400 ?_
    refine ax_ldc2 dX12_make_17 kc_X12_398 ?_
    refine ax_invS (n := 3) (As := [_, _, _]) dX12_make_20 cb_X12_isIn cs_X12_242.1 cs_X12_242.2 rfl ⟨Nat.le_of_ble_eq_true rfl, Nat.le_of_ble_eq_true rfl⟩ (Nat.le_of_ble_eq_true rfl) rfl (t_isInI (lo := (3)) (hi := (4)) (fun c_20 => ?_) (fun c_20 => ?_))
    · refine ax_if_eq (tgt := 32) dX12_make_23 (by decide) (fun z => absurd z (by decide)) (fun _ => ?_)
      refine ax_iload_n (i := 3) dX12_make_26 rfl rfl ?_
      refine ax_bipush (v := 60) dX12_make_27 (by decide) ?_
      refine ax_icmp_le (tgt := 34) dX12_make_29 (by decide) (fun c_29 => ?_) (fun c_29 => ?_)
      · refine ax_iload_n (i := 3) dX12_make_34 rfl rfl ?_
        refine ax_if_ge (tgt := 41) dX12_make_35 (by decide) (fun c_35 => ?_) (fun c_35 => ?_)
        · have e_d := okB_e c_6
          have e_db := e_d.2
          have e_n := rg_of (n := 61) c_35 (Int32.lt_of_le_of_lt c_29 (by decide)) (by decide)
          have e_nb := e_n.2
          rw [e_d.1, e_n.1]
          have L : ∀ (m k : Nat), k + m = nN n → awX b E m_X12_make 58 [(4, .int (nI k)), (0, .ref (nm 13 0)), (1, .int (nI (nN d))), (2, .int wh), (3, .int (nI (nN n)))] [] (putM S (mIter (fun i M => pL M 82 (60 * nN d + i) 0) k (pA (pA (mT0 M) 79 (nN d) wh) 80 (nN d) (nI (nN n))))) 0 0 Q := by
            intro m
            induction m with
            | zero =>
              intro k hm1 
              refine ax_iload dX12_make_58 rfl ?_
              refine ax_iload_n (i := 3) dX12_make_60 rfl rfl ?_
              refine ax_icmp_ge (tgt := 83) dX12_make_61 (by decide) (fun c_61 => ?_) (fun c_61 => ?_)
              · have hk2 : k = nN n := Nat.le_antisymm (by omega) (ge_of_n rfl c_61 (by omega))
                subst hk2
                refine ax_iconst (v := 0) dX12_make_83 (by decide) ?_
                refine ax_iret dX12_make_84 rfl rfl ?_
                exact fin2 h ((if_neg (fun z => z.elim (fun w => w ⟨c_6, c_20⟩) (fun w => Int32.not_lt.mpr c_29 w))).trans ((if_neg (Int32.not_lt.mpr c_35)).trans (by rw [← e_n.1])))
              · exact absurd (lt_of_n rfl c_61 (by omega)) (by omega)
            | succ m ih =>
              intro k hm1 
              refine ax_iload dX12_make_58 rfl ?_
              refine ax_iload_n (i := 3) dX12_make_60 rfl rfl ?_
              refine ax_icmp_ge (tgt := 83) dX12_make_61 (by decide) (fun c_61 => ?_) (fun c_61 => ?_)
              · exact absurd (ge_of_n rfl c_61 (by omega)) (by omega)
              · have hk2 : k < nN n := lt_of_n rfl c_61 (by omega)
                refine ax_aload_n (i := 0) dX12_make_64 rfl rfl rfl ?_
                refine ax_mR hm dX12_make_65 fl_X12_222 rfl (by decide) ?_
                refine ax_bipush (v := nI 60) dX12_make_68 (by decide) ?_
                refine ax_iload_n (i := 1) dX12_make_70 rfl rfl ?_
                refine ax_imulN dX12_make_71 ?_
                refine ax_iload dX12_make_72 rfl ?_
                refine ax_iaddN dX12_make_74 ?_
                refine ax_lconst (v := 0) dX12_make_75 (by decide) ?_
                refine ax_mPJN (N := 480) hm dX12_make_76 rfl rfl (by decide) (by omega) ?_
                refine ax_iinc (v := _ + 1) (lv' := [(4, _), (0, .ref (nm 13 0)), (1, _), (2, _), (3, _)]) dX12_make_77 rfl rfl (by decide) rfl ?_
                refine ax_goto (tgt := 58) dX12_make_80 (by decide) ?_
                rw [nI_1]
                exact ax_loc rfl (ih (k + 1) (by omega))
          refine ax_aload_n (i := 0) dX12_make_41 rfl rfl rfl ?_
          refine ax_mR hm dX12_make_42 fl_X12_213 rfl (by decide) ?_
          refine ax_iload_n (i := 1) dX12_make_45 rfl rfl ?_
          refine ax_iload_n (i := 2) dX12_make_46 rfl rfl ?_
          refine ax_mPIN (N := 8) hm dX12_make_47 rfl rfl (by decide) (by omega) ?_
          refine ax_aload_n (i := 0) dX12_make_48 rfl rfl rfl ?_
          refine ax_mR hm dX12_make_49 fl_X12_216 rfl (by decide) ?_
          refine ax_iload_n (i := 1) dX12_make_52 rfl rfl ?_
          refine ax_iload_n (i := 3) dX12_make_53 rfl rfl ?_
          refine ax_mPIN (N := 8) hm dX12_make_54 rfl rfl (by decide) (by omega) ?_
          refine ax_iconst (v := nI 0) dX12_make_55 (by decide) ?_
          refine ax_istore (lv' := [(4, _), (0, _), (1, _), (2, _), (3, _)]) dX12_make_56 (by decide) rfl ?_
          exact ax_loc rfl (L (nN n) 0 (by omega))
        · refine ax_bipush (v := -14) dX12_make_38 (by decide) ?_
          refine ax_iret dX12_make_40 rfl rfl ?_
          exact fin2 h ((if_neg (fun z => z.elim (fun w => w ⟨c_6, c_20⟩) (fun w => Int32.not_lt.mpr c_29 w))).trans (if_pos (Int32.not_le.mp c_35)))
      · refine ax_iconst (v := -1) dX12_make_32 (by decide) ?_
        refine ax_iret dX12_make_33 rfl rfl ?_
        exact fin2 h (if_pos (Or.inr (Int32.not_le.mp c_29)))
    · refine ax_if_eq (tgt := 32) dX12_make_23 (by decide) (fun _ => ?_) (fun z => absurd (by decide) z)
      refine ax_iconst (v := -1) dX12_make_32 (by decide) ?_
      refine ax_iret dX12_make_33 rfl rfl ?_
      exact fin2 h (if_pos (Or.inl (fun g => c_20 g.2)))
  · refine ax_if_eq (tgt := 32) dX12_make_9 (by decide) (fun _ => ?_) (fun z => absurd (by decide) z)
    refine ax_iconst (v := -1) dX12_make_32 (by decide) ?_
    refine ax_iret dX12_make_33 rfl rfl ?_
    exact fin2 h (if_pos (Or.inl (fun g => c_6 g.1)))
