theorem mI.sendA {M : aM} (h : mI M) {g : Nat} (t : Nat) (why : Int32) (hg : g < 300) (hl : mN M 63 < 200) : mI (mSendA M g t why) := by
  unfold mSendA
  simp only []
  exact ((((h.qSR (k := 63) (b := 200) (by decide) (by omega) (by decide)).qF (by decide)).qR (b := 300) (by decide) hg (by decide)).qF (by decide)).qRv (b := 41) (by decide) ⟨by decide, by decide⟩ (by decide)
theorem mI.write {M : aM} (h : mI M) {l x : Nat} (hl : l < 200) (hx : x < 300) : mI (mWrite M l x) := by
  have hm := h.A (k := 67) (n := 200) (b := 41) (by decide) hl
  unfold mWrite
  split
  · exact h
  · rename_i c
    have h2 : ¬ mE M 67 l = 40 := fun z => c (by rw [hm.1, z]; rfl)
    have e : mA M 67 l + 1 = nI (mE M 67 l + 1) := by rw [hm.1]; exact nI_1 _
    have h3 : mI (pA (pA M 68 (40 * l + mE M 67 l) (nI x)) 67 l (mA M 67 l + 1)) := (h.qR (b := 300) (by decide) hx (by decide)).qRv (b := 41) (by decide) (by rw [e]; unfold nN; rw [nI_clamp (by omega)]; exact ⟨rfl, by omega⟩) (by decide)
    simp only []
    split
    · exact ((h3.qF (by decide)).qF (by decide)).qF (by decide)
    · exact ((h3.qF (by decide)).qF (by decide)).qF (by decide)
theorem mS_write (M : aM) (l x k : Nat) : mS (mWrite M l x) k = mS M k := by
  unfold mWrite
  split
  · rfl
  · simp only []
    split <;> rfl
theorem mSend1_inv {M : aM} (h : mI M) (g l n : Nat) (hl : l < 200) (hn : n ≤ 300) : mI (mIter (mSend1 g l) n M) ∧ ∀ k, mS (mIter (mSend1 g l) n M) k = mS M k :=
  mIter_inv (fun N => mI N ∧ ∀ k, mS N k = mS M k) ⟨h, fun _ => rfl⟩ (fun j a hj q => by
    unfold mSend1
    split
    · exact ⟨mI.write q.1 hl (by omega), fun k => (mS_write a l j k).trans (q.2 k)⟩
    · exact q)
theorem mSend2_inv {M : aM} (h : mI M) (g l n : Nat) (hl : l < 200) (hn : n ≤ 300) : mI (mIter (mSend2 g l) n M) ∧ ∀ k, mS (mIter (mSend2 g l) n M) k = mS M k :=
  mIter_inv (fun N => mI N ∧ ∀ k, mS N k = mS M k) ⟨h, fun _ => rfl⟩ (fun j a hj q => by
    unfold mSend2
    split
    · exact ⟨mI.write q.1 hl (by omega), fun k => (mS_write a l j k).trans (q.2 k)⟩
    · exact q)
theorem mSendR_inv {M : aM} (h : mI M) (l n : Nat) (hn : n ≤ 8) : mI (mIter (fun i M => pA M 70 (8 * l + i) (mA M 77 i)) n M) ∧ ∀ k, mS (mIter (fun i M => pA M 70 (8 * l + i) (mA M 77 i)) n M) k = mS M k :=
  mIter_inv (fun N => mI N ∧ ∀ k, mS N k = mS M k) ⟨h, fun _ => rfl⟩ (fun j a hj q => ⟨q.1.qRv (b := 8) (by decide) (mIx.A q.1 (k := 77) (n := 8) (b := 8) (by decide) (by omega)) (by decide), q.2⟩)

set_option maxHeartbeats 4000000 in
set_option maxRecDepth 100000 in
theorem send_4 {b : Bool} {E : awE} {S : awS} {M : aM} {Q : Option Value → awS → Nat → Nat → Prop} (hm : mOk S) {g t l : Nat} {why : Int32} (hg : g < 300) (hl : l < 200) (h : Q none (putM S (mSendD M g t l why)) 0 0) : awX b E m_X12_send 216 [(4, .int (nI l)), (0, .ref (nm 13 0)), (1, .int (nI g)), (2, .int (nI t)), (3, .int why)] [] (putM S M) 0 0 Q := by
  refine ax_aload_n (i := 0) dX12_send_216 rfl rfl rfl ?_
  refine ax_mR hm dX12_send_217 fl_X12_192 rfl (by decide) ?_
  refine ax_iload dX12_send_220 rfl ?_
  refine ax_iconst (v := 0) dX12_send_222 (by decide) ?_
  refine ax_mPIN (N := 200) hm dX12_send_223 rfl rfl (by decide) (by omega) ?_
  refine ax_aload_n (i := 0) dX12_send_224 rfl rfl rfl ?_
  refine ax_mR hm dX12_send_225 fl_X12_195 rfl (by decide) ?_
  refine ax_iload dX12_send_228 rfl ?_
  refine ax_iload_n (i := 2) dX12_send_230 rfl rfl ?_
  refine ax_mPIN (N := 200) hm dX12_send_231 rfl rfl (by decide) (by omega) ?_
  refine ax_aload_n (i := 0) dX12_send_232 rfl rfl rfl ?_
  refine ax_mR hm dX12_send_233 fl_X12_198 rfl (by decide) ?_
  refine ax_iload dX12_send_236 rfl ?_
  refine ax_bipush (v := -2) dX12_send_238 (by decide) ?_
  refine ax_mPIN (N := 200) hm dX12_send_240 rfl rfl (by decide) (by omega) ?_
  refine ax_aload_n (i := 0) dX12_send_241 rfl rfl rfl ?_
  refine ax_mR hm dX12_send_242 fl_X12_201 rfl (by decide) ?_
  refine ax_iload dX12_send_245 rfl ?_
  refine ax_iconst (v := 0) dX12_send_247 (by decide) ?_
  refine ax_mPIN (N := 200) hm dX12_send_248 rfl rfl (by decide) (by omega) ?_
  refine ax_aload_n (i := 0) dX12_send_249 rfl rfl rfl ?_
  refine ax_mR hm dX12_send_250 fl_X12_141 rfl (by decide) ?_
  refine ax_iload_n (i := 1) dX12_send_253 rfl rfl ?_
  refine ax_iload_n (i := 2) dX12_send_254 rfl rfl ?_
  refine ax_mPIN (N := 300) hm dX12_send_255 rfl rfl (by decide) (by omega) ?_
  refine ax_aload_n (i := 0) dX12_send_256 rfl rfl rfl ?_
  refine ax_mR hm dX12_send_257 fl_X12_144 rfl (by decide) ?_
  refine ax_iload_n (i := 1) dX12_send_260 rfl rfl ?_
  refine ax_iload_n (i := 3) dX12_send_261 rfl rfl ?_
  refine ax_iconst (v := 4) dX12_send_262 (by decide) ?_
  refine ax_icmp_eq (tgt := 270) dX12_send_263 (by decide) (fun c_263 => ?_) (fun c_263 => ?_)
  · refine ax_iconst (v := 0) dX12_send_270 (by decide) ?_
    refine ax_mPZN (N := 300) hm dX12_send_271 rfl rfl (by decide) (by omega) rfl ?_
    refine ax_vret dX12_send_272 rfl ?_
    exact fin0 h (by unfold mSendD; rw [if_pos c_263])
  · refine ax_iconst (v := 1) dX12_send_266 (by decide) ?_
    refine ax_goto (tgt := 271) dX12_send_267 (by decide) ?_
    refine ax_mPZN (N := 300) hm dX12_send_271 rfl rfl (by decide) (by omega) rfl ?_
    refine ax_vret dX12_send_272 rfl ?_
    exact fin0 h (by unfold mSendD; rw [if_neg (fun z => c_263 z)])
set_option maxHeartbeats 4000000 in
set_option maxRecDepth 100000 in
theorem send_3 {b : Bool} {E : awE} {S : awS} {M : aM} {Q : Option Value → awS → Nat → Nat → Prop} (hm : mOk S) {g t l : Nat} {why : Int32} (hI : mI M) (ha : mS M 78 = nI (mN M 78)) (ha8 : mN M 78 ≤ 8) (hg : g < 300) (hl : l < 200) (h : Q none (putM S (mSendD (mIter (fun i M => pA M 70 (8 * l + i) (mA M 77 i)) (mN M 78) M) g t l why)) 0 0) : awX b E m_X12_send 181 [(5, .int (nI 0)), (4, .int (nI l)), (0, .ref (nm 13 0)), (1, .int (nI g)), (2, .int (nI t)), (3, .int why)] [] (putM S M) 0 0 Q := by
  have en : ∀ k, k ≤ 8 → mS (mIter (fun i M => pA M 70 (8 * l + i) (mA M 77 i)) k M) 78 = nI (mN M 78) := fun k hk => ((mSendR_inv hI l k hk).2 _).trans ha
  have L : ∀ (m k : Nat), k + m = mN M 78 → awX b E m_X12_send 181 [(5, .int (nI k)), (4, .int (nI l)), (0, .ref (nm 13 0)), (1, .int (nI g)), (2, .int (nI t)), (3, .int why)] [] (putM S (mIter (fun i M => pA M 70 (8 * l + i) (mA M 77 i)) k M)) 0 0 Q := by
    intro m
    induction m with
    | zero =>
      intro k hm1 
      refine ax_iload dX12_send_181 rfl ?_
      refine ax_aload_n (i := 0) dX12_send_183 rfl rfl rfl ?_
      refine ax_mS dX12_send_184 fl_X12_356 rfl ?_
      refine ax_icmp_ge (tgt := 216) dX12_send_187 (by decide) (fun c_187 => ?_) (fun c_187 => ?_)
      · have hk2 : k = mN M 78 := Nat.le_antisymm (by omega) (ge_of_n (en k (by omega)) c_187 (by omega))
        subst hk2
        exact ax_loc rfl (send_4 hm hg hl h)
      · exact absurd (lt_of_n (en k (by omega)) c_187 (by omega)) (by omega)
    | succ m ih =>
      intro k hm1 
      refine ax_iload dX12_send_181 rfl ?_
      refine ax_aload_n (i := 0) dX12_send_183 rfl rfl rfl ?_
      refine ax_mS dX12_send_184 fl_X12_356 rfl ?_
      refine ax_icmp_ge (tgt := 216) dX12_send_187 (by decide) (fun c_187 => ?_) (fun c_187 => ?_)
      · exact absurd (ge_of_n (en k (by omega)) c_187 (by omega)) (by omega)
      · have hk2 : k < mN M 78 := lt_of_n (en k (by omega)) c_187 (by omega)
        generalize hN : mIter (fun i M => pA M 70 (8 * l + i) (mA M 77 i)) k M = N
        refine ax_aload_n (i := 0) dX12_send_190 rfl rfl rfl ?_
        refine ax_mR hm dX12_send_191 fl_X12_189 rfl (by decide) ?_
        refine ax_bipush (v := nI 8) dX12_send_194 (by decide) ?_
        refine ax_iload dX12_send_196 rfl ?_
        refine ax_imulN dX12_send_198 ?_
        refine ax_iload dX12_send_199 rfl ?_
        refine ax_iaddN dX12_send_201 ?_
        refine ax_aload_n (i := 0) dX12_send_202 rfl rfl rfl ?_
        refine ax_mR hm dX12_send_203 fl_X12_210 rfl (by decide) ?_
        refine ax_iload dX12_send_206 rfl ?_
        refine ax_mIN (N := 8) hm dX12_send_208 rfl rfl (by decide) (by omega) ?_
        refine ax_mPIN (N := 1600) hm dX12_send_209 rfl rfl (by decide) (by omega) ?_
        refine ax_iinc (v := _ + 1) (lv' := [(5, _), (4, _), (0, _), (1, _), (2, _), (3, _)]) dX12_send_210 rfl rfl (by decide) rfl ?_
        refine ax_mE (M2 := mIter (fun i M => pA M 70 (8 * l + i) (mA M 77 i)) (k + 1) M) (by rw [show mIter (fun i M => pA M 70 (8 * l + i) (mA M 77 i)) (k + 1) M = pA N 70 (8 * l + k) (mA N 77 k) by rw [← hN]; rfl]) ?_
        refine ax_goto (tgt := 181) dX12_send_213 (by decide) ?_
        rw [nI_1]
        exact ax_loc rfl (ih (k + 1) (by omega))
  exact L (mN M 78) 0 (by omega)
set_option maxHeartbeats 4000000 in
set_option maxRecDepth 100000 in
theorem send_2 {b : Bool} {E : awE} {S : awS} {M : aM} {Q : Option Value → awS → Nat → Nat → Prop} (hm : mOk S) {g t l : Nat} {why : Int32} (hI : mI M) (hl : l < 200) (K : awX b E m_X12_send 162 [(4, .int (nI l)), (0, .ref (nm 13 0)), (1, .int (nI g)), (2, .int (nI t)), (3, .int why)] [] (putM S (mIter (mSend2 g l) (mN M 30) M)) 0 0 Q) : awX b E m_X12_send 98 [(5, .int (nI 0)), (4, .int (nI l)), (0, .ref (nm 13 0)), (1, .int (nI g)), (2, .int (nI t)), (3, .int why)] [] (putM S M) 0 0 Q := by
  have hab : mN M 30 ≤ 300 := mS_b hI (by decide)
  have en : ∀ k, k ≤ 300 → mS (mIter (mSend2 g l) k M) 30 = nI (mN M 30) := fun k hk => ((mSend2_inv hI g l k hl hk).2 _).trans (mS_nI hI (b := 300) (by decide))
  have L : ∀ (m k : Nat), k + m = mN M 30 → awX b E m_X12_send 98 [(5, .int (nI k)), (4, .int (nI l)), (0, .ref (nm 13 0)), (1, .int (nI g)), (2, .int (nI t)), (3, .int why)] [] (putM S (mIter (mSend2 g l) k M)) 0 0 Q := by
    intro m
    induction m with
    | zero =>
      intro k hm1 
      refine ax_iload dX12_send_98 rfl ?_
      refine ax_aload_n (i := 0) dX12_send_100 rfl rfl rfl ?_
      refine ax_mS dX12_send_101 fl_X12_284 rfl ?_
      refine ax_icmp_ge (tgt := 162) dX12_send_104 (by decide) (fun c_104 => ?_) (fun c_104 => ?_)
      · have hk2 : k = mN M 30 := Nat.le_antisymm (by omega) (ge_of_n (en k (by omega)) c_104 (by omega))
        subst hk2
        exact ax_loc rfl K
      · exact absurd (lt_of_n (en k (by omega)) c_104 (by omega)) (by omega)
    | succ m ih =>
      intro k hm1 
      refine ax_iload dX12_send_98 rfl ?_
      refine ax_aload_n (i := 0) dX12_send_100 rfl rfl rfl ?_
      refine ax_mS dX12_send_101 fl_X12_284 rfl ?_
      refine ax_icmp_ge (tgt := 162) dX12_send_104 (by decide) (fun c_104 => ?_) (fun c_104 => ?_)
      · exact absurd (ge_of_n (en k (by omega)) c_104 (by omega)) (by omega)
      · have hk2 : k < mN M 30 := lt_of_n (en k (by omega)) c_104 (by omega)
        have hP := (mSend2_inv hI g l k hl (by omega)).1
        generalize hN : mIter (mSend2 g l) k M = N at hP ⊢
        refine ax_aload_n (i := 0) dX12_send_107 rfl rfl rfl ?_
        refine ax_mR hm dX12_send_108 fl_X12_119 rfl (by decide) ?_
        refine ax_iload dX12_send_111 rfl ?_
        refine ax_mIN (N := 300) hm dX12_send_113 rfl rfl (by decide) (by omega) ?_
        refine ax_iload_n (i := 1) dX12_send_114 rfl rfl ?_
        refine ax_icmp_ne (tgt := 156) dX12_send_115 (by decide) (fun c_115 => ?_) (fun c_115 => ?_)
        · refine ax_iinc (v := _ + 1) (lv' := [(5, _), (4, _), (0, _), (1, _), (2, _), (3, _)]) dX12_send_156 rfl rfl (by decide) rfl ?_
          refine ax_mE (M2 := mIter (mSend2 g l) (k + 1) M) (by rw [show mIter (mSend2 g l) (k + 1) M = mSend2 g l k N by rw [← hN]; rfl]; unfold mSend2; rw [if_neg (show ¬ (mA N 42 k = nI g ∧ 0 < mA N 34 k ∧ ¬ mA N 40 k = 0 ∧ mA N 41 k = 0) from fun z => c_115 z.1)]) ?_
          refine ax_goto (tgt := 98) dX12_send_159 (by decide) ?_
          rw [nI_1]
          exact ax_loc rfl (ih (k + 1) (by omega))
        · refine ax_aload_n (i := 0) dX12_send_118 rfl rfl rfl ?_
          refine ax_mR hm dX12_send_119 fl_X12_95 rfl (by decide) ?_
          refine ax_iload dX12_send_122 rfl ?_
          refine ax_mIN (N := 300) hm dX12_send_124 rfl rfl (by decide) (by omega) ?_
          refine ax_if_le (tgt := 156) dX12_send_125 (by decide) (fun c_125 => ?_) (fun c_125 => ?_)
          · refine ax_iinc (v := _ + 1) (lv' := [(5, _), (4, _), (0, _), (1, _), (2, _), (3, _)]) dX12_send_156 rfl rfl (by decide) rfl ?_
            refine ax_mE (M2 := mIter (mSend2 g l) (k + 1) M) (by rw [show mIter (mSend2 g l) (k + 1) M = mSend2 g l k N by rw [← hN]; rfl]; unfold mSend2; rw [if_neg (show ¬ (mA N 42 k = nI g ∧ 0 < mA N 34 k ∧ ¬ mA N 40 k = 0 ∧ mA N 41 k = 0) from fun z => absurd c_125 (Int32.not_le.mpr z.2.1))]) ?_
            refine ax_goto (tgt := 98) dX12_send_159 (by decide) ?_
            rw [nI_1]
            exact ax_loc rfl (ih (k + 1) (by omega))
          · refine ax_aload_n (i := 0) dX12_send_128 rfl rfl rfl ?_
            refine ax_mR hm dX12_send_129 fl_X12_113 rfl (by decide) ?_
            refine ax_iload dX12_send_132 rfl ?_
            refine ax_mZN (N := 300) hm dX12_send_134 rfl rfl (by decide) (by omega) ?_
            refine ax_if_eq (tgt := 156) dX12_send_135 (by decide) (fun c_135 => ?_) (fun c_135 => ?_)
            · refine ax_iinc (v := _ + 1) (lv' := [(5, _), (4, _), (0, _), (1, _), (2, _), (3, _)]) dX12_send_156 rfl rfl (by decide) rfl ?_
              refine ax_mE (M2 := mIter (mSend2 g l) (k + 1) M) (by rw [show mIter (mSend2 g l) (k + 1) M = mSend2 g l k N by rw [← hN]; rfl]; unfold mSend2; rw [if_neg (show ¬ (mA N 42 k = nI g ∧ 0 < mA N 34 k ∧ ¬ mA N 40 k = 0 ∧ mA N 41 k = 0) from fun z => z.2.2.1 c_135)]) ?_
              refine ax_goto (tgt := 98) dX12_send_159 (by decide) ?_
              rw [nI_1]
              exact ax_loc rfl (ih (k + 1) (by omega))
            · refine ax_aload_n (i := 0) dX12_send_138 rfl rfl rfl ?_
              refine ax_mR hm dX12_send_139 fl_X12_116 rfl (by decide) ?_
              refine ax_iload dX12_send_142 rfl ?_
              refine ax_mZN (N := 300) hm dX12_send_144 rfl rfl (by decide) (by omega) ?_
              refine ax_if_ne (tgt := 156) dX12_send_145 (by decide) (fun c_145 => ?_) (fun c_145 => ?_)
              · refine ax_iinc (v := _ + 1) (lv' := [(5, _), (4, _), (0, _), (1, _), (2, _), (3, _)]) dX12_send_156 rfl rfl (by decide) rfl ?_
                refine ax_mE (M2 := mIter (mSend2 g l) (k + 1) M) (by rw [show mIter (mSend2 g l) (k + 1) M = mSend2 g l k N by rw [← hN]; rfl]; unfold mSend2; rw [if_neg (show ¬ (mA N 42 k = nI g ∧ 0 < mA N 34 k ∧ ¬ mA N 40 k = 0 ∧ mA N 41 k = 0) from fun z => c_145 z.2.2.2)]) ?_
                refine ax_goto (tgt := 98) dX12_send_159 (by decide) ?_
                rw [nI_1]
                exact ax_loc rfl (ih (k + 1) (by omega))
              · refine ax_aload_n (i := 0) dX12_send_148 rfl rfl rfl ?_
                refine ax_iload dX12_send_149 rfl ?_
                refine ax_iload dX12_send_151 rfl ?_
                refine ax_invV (c := 13) (n := 2) (As := [_, _]) dX12_send_153 cb_X12_write cv_X12_365.1 cv_X12_365.2.1 cv_X12_365.2.2 rfl (by decide) rfl ⟨Nat.le_of_ble_eq_true rfl, Nat.le_of_ble_eq_true rfl⟩ (Nat.le_of_ble_eq_true rfl) rfl (t_write hm hP hl (by omega) ?_)
                refine ax_iinc (v := _ + 1) (lv' := [(5, _), (4, _), (0, _), (1, _), (2, _), (3, _)]) dX12_send_156 rfl rfl (by decide) rfl ?_
                refine ax_mE (M2 := mIter (mSend2 g l) (k + 1) M) (by rw [show mIter (mSend2 g l) (k + 1) M = mSend2 g l k N by rw [← hN]; rfl]; unfold mSend2; rw [if_pos (show (mA N 42 k = nI g ∧ 0 < mA N 34 k ∧ ¬ mA N 40 k = 0 ∧ mA N 41 k = 0) from ⟨Classical.not_not.mp c_115, Int32.not_le.mp c_125, c_135, Classical.not_not.mp c_145⟩)]) ?_
                refine ax_goto (tgt := 98) dX12_send_159 (by decide) ?_
                rw [nI_1]
                exact ax_loc rfl (ih (k + 1) (by omega))
  exact L (mN M 30) 0 (by omega)
set_option maxHeartbeats 4000000 in
set_option maxRecDepth 100000 in
theorem send_1 {b : Bool} {E : awE} {S : awS} {M : aM} {Q : Option Value → awS → Nat → Nat → Prop} (hm : mOk S) {g t l : Nat} {why : Int32} (hI : mI M) (hl : l < 200) (K : awX b E m_X12_send 95 [(4, .int (nI l)), (0, .ref (nm 13 0)), (1, .int (nI g)), (2, .int (nI t)), (3, .int why)] [] (putM S (mIter (mSend1 g l) (mN M 30) M)) 0 0 Q) : awX b E m_X12_send 51 [(5, .int (nI 0)), (4, .int (nI l)), (0, .ref (nm 13 0)), (1, .int (nI g)), (2, .int (nI t)), (3, .int why)] [] (putM S M) 0 0 Q := by
  have hab : mN M 30 ≤ 300 := mS_b hI (by decide)
  have en : ∀ k, k ≤ 300 → mS (mIter (mSend1 g l) k M) 30 = nI (mN M 30) := fun k hk => ((mSend1_inv hI g l k hl hk).2 _).trans (mS_nI hI (b := 300) (by decide))
  have L : ∀ (m k : Nat), k + m = mN M 30 → awX b E m_X12_send 51 [(5, .int (nI k)), (4, .int (nI l)), (0, .ref (nm 13 0)), (1, .int (nI g)), (2, .int (nI t)), (3, .int why)] [] (putM S (mIter (mSend1 g l) k M)) 0 0 Q := by
    intro m
    induction m with
    | zero =>
      intro k hm1 
      refine ax_iload dX12_send_51 rfl ?_
      refine ax_aload_n (i := 0) dX12_send_53 rfl rfl rfl ?_
      refine ax_mS dX12_send_54 fl_X12_284 rfl ?_
      refine ax_icmp_ge (tgt := 95) dX12_send_57 (by decide) (fun c_57 => ?_) (fun c_57 => ?_)
      · have hk2 : k = mN M 30 := Nat.le_antisymm (by omega) (ge_of_n (en k (by omega)) c_57 (by omega))
        subst hk2
        exact ax_loc rfl K
      · exact absurd (lt_of_n (en k (by omega)) c_57 (by omega)) (by omega)
    | succ m ih =>
      intro k hm1 
      refine ax_iload dX12_send_51 rfl ?_
      refine ax_aload_n (i := 0) dX12_send_53 rfl rfl rfl ?_
      refine ax_mS dX12_send_54 fl_X12_284 rfl ?_
      refine ax_icmp_ge (tgt := 95) dX12_send_57 (by decide) (fun c_57 => ?_) (fun c_57 => ?_)
      · exact absurd (ge_of_n (en k (by omega)) c_57 (by omega)) (by omega)
      · have hk2 : k < mN M 30 := lt_of_n (en k (by omega)) c_57 (by omega)
        have hP := (mSend1_inv hI g l k hl (by omega)).1
        generalize hN : mIter (mSend1 g l) k M = N at hP ⊢
        refine ax_aload_n (i := 0) dX12_send_60 rfl rfl rfl ?_
        refine ax_mR hm dX12_send_61 fl_X12_119 rfl (by decide) ?_
        refine ax_iload dX12_send_64 rfl ?_
        refine ax_mIN (N := 300) hm dX12_send_66 rfl rfl (by decide) (by omega) ?_
        refine ax_iload_n (i := 1) dX12_send_67 rfl rfl ?_
        refine ax_icmp_ne (tgt := 89) dX12_send_68 (by decide) (fun c_68 => ?_) (fun c_68 => ?_)
        · refine ax_iinc (v := _ + 1) (lv' := [(5, _), (4, _), (0, _), (1, _), (2, _), (3, _)]) dX12_send_89 rfl rfl (by decide) rfl ?_
          refine ax_mE (M2 := mIter (mSend1 g l) (k + 1) M) (by rw [show mIter (mSend1 g l) (k + 1) M = mSend1 g l k N by rw [← hN]; rfl]; unfold mSend1; rw [if_neg (show ¬ (mA N 42 k = nI g ∧ 0 < mA N 37 k) from fun z => c_68 z.1)]) ?_
          refine ax_goto (tgt := 51) dX12_send_92 (by decide) ?_
          rw [nI_1]
          exact ax_loc rfl (ih (k + 1) (by omega))
        · refine ax_aload_n (i := 0) dX12_send_71 rfl rfl rfl ?_
          refine ax_mR hm dX12_send_72 fl_X12_104 rfl (by decide) ?_
          refine ax_iload dX12_send_75 rfl ?_
          refine ax_mIN (N := 300) hm dX12_send_77 rfl rfl (by decide) (by omega) ?_
          refine ax_if_le (tgt := 89) dX12_send_78 (by decide) (fun c_78 => ?_) (fun c_78 => ?_)
          · refine ax_iinc (v := _ + 1) (lv' := [(5, _), (4, _), (0, _), (1, _), (2, _), (3, _)]) dX12_send_89 rfl rfl (by decide) rfl ?_
            refine ax_mE (M2 := mIter (mSend1 g l) (k + 1) M) (by rw [show mIter (mSend1 g l) (k + 1) M = mSend1 g l k N by rw [← hN]; rfl]; unfold mSend1; rw [if_neg (show ¬ (mA N 42 k = nI g ∧ 0 < mA N 37 k) from fun z => absurd c_78 (Int32.not_le.mpr z.2))]) ?_
            refine ax_goto (tgt := 51) dX12_send_92 (by decide) ?_
            rw [nI_1]
            exact ax_loc rfl (ih (k + 1) (by omega))
          · refine ax_aload_n (i := 0) dX12_send_81 rfl rfl rfl ?_
            refine ax_iload dX12_send_82 rfl ?_
            refine ax_iload dX12_send_84 rfl ?_
            refine ax_invV (c := 13) (n := 2) (As := [_, _]) dX12_send_86 cb_X12_write cv_X12_365.1 cv_X12_365.2.1 cv_X12_365.2.2 rfl (by decide) rfl ⟨Nat.le_of_ble_eq_true rfl, Nat.le_of_ble_eq_true rfl⟩ (Nat.le_of_ble_eq_true rfl) rfl (t_write hm hP hl (by omega) ?_)
            refine ax_iinc (v := _ + 1) (lv' := [(5, _), (4, _), (0, _), (1, _), (2, _), (3, _)]) dX12_send_89 rfl rfl (by decide) rfl ?_
            refine ax_mE (M2 := mIter (mSend1 g l) (k + 1) M) (by rw [show mIter (mSend1 g l) (k + 1) M = mSend1 g l k N by rw [← hN]; rfl]; unfold mSend1; rw [if_pos (show (mA N 42 k = nI g ∧ 0 < mA N 37 k) from ⟨Classical.not_not.mp c_68, Int32.not_le.mp c_78⟩)]) ?_
            refine ax_goto (tgt := 51) dX12_send_92 (by decide) ?_
            rw [nI_1]
            exact ax_loc rfl (ih (k + 1) (by omega))
  exact L (mN M 30) 0 (by omega)
