theorem sd_0 {τ : Nat → Nat → Nat} {S : awS} {M : aM} {l g t : Nat} {why : Int32} (R : cR τ S M) (hr0 : cRest M) (hg : g < mN M 48) (hl : mN M 63 = l) (hl2 : l < 200) : sdI τ l g why (nI t) S (iL S l g why (nI t)) (mSendA M g t why) := by
  have h4 : sC S 4 = l := (R.cx.2.2.2.2.2.2.2.2.2.2.2.2.2.1.trans (Nat.one_mul _)).trans hl
  have h23 : sC S 23 = l := (R.cx.2.2.2.2.2.2.2.2.2.2.2.2.2.2.1.trans (Nat.one_mul _)).trans hl
  have h24 : sC S 24 = l := (R.cx.2.2.2.2.2.2.2.2.2.2.2.2.2.2.2.trans (Nat.one_mul _)).trans hl
  have hIA : mI (mSendA M g t why) := R.mI.sendA t why (Nat.lt_of_lt_of_le hg R.nG) (by omega)
  have lt := iL_lt (g := g) (why := why) (t := nI t) h4 h23 h24
  have e63 : mS M 63 = nI l := by rw [← hl]; exact mS_nI R.mI (k := 63) (b := 200) (by decide)
  have ltm : ltM l M (pS (mSendA M g t why) 63 (nI l)) := by
    refine ⟨?_, fun k j q => ?_, rfl⟩
    · show (fun k => if k = 63 then nI l else if k = 63 then nI (mN M 63 + 1) else M.1 k) = M.1
      funext k
      by_cases e : k = 63
      · rw [if_pos e, e]; exact e63.symm
      · rw [if_neg e, if_neg e]
    · have a1 : ∀ (N : aM) (q i : Nat) (v : Int32), (64 ≤ q ∧ q ≤ 67) → i = l → mA (pA N q i v) k j = mA N k j := fun N q' i v h e => by
        rw [mA_pA, if_neg (fun z => q ?_)]
        obtain ⟨y1, y2⟩ := z
        refine ⟨by omega, ?_⟩
        rw [if_neg (by omega), if_neg (by omega)]
        omega
      show mA (mSendA M g t why) k j = mA M k j
      unfold mSendA
      simp only []
      rw [a1 _ _ _ _ (by omega) hl, a1 _ _ _ _ (by omega) hl, a1 _ _ _ _ (by omega) hl, a1 _ _ _ _ (by omega) hl]
      rfl
  refine ⟨(R.lt hl lt).lm hl ltm (hIA.qSR (b := 200) (by decide) (by omega) (by decide)), hIA, hr0, ⟨0, by omega, iL_F h4 h23 h24, ?_, fun j hj => absurd hj (Nat.not_lt_zero j)⟩, fun i j q => (lt.1 3 i j (fun z => absurd z.1 (by decide))).1, cFm.lt lt⟩
  simp [mSendA, hl, mA_pA]
  rfl

set_option maxHeartbeats 1000000 in
set_option maxRecDepth 100000 in
theorem c_sendLetter {E : awE} {S : awS} {M : aM} {τ : Nat → Nat → Nat} {Q : Option Value → awS → Nat → Nat → Prop} {g t : Nat} {why : Int32} (R : cR τ S M) (hr0 : cRest M) (hg : g < mN M 48) (hL : mN M 63 < 200) (ht : t ≤ mN M 1 + 1) (h : ∀ S1 kc ks, cR τ S1 (mSend M g t why) → cRest (mSend M g t why) → (∀ i j, 4 ≤ j → sI S1 3 i j = sI S 3 i j) → cFm S S1 → kc ≤ 4 → ks ≤ 1300 → Q none S1 kc ks) : awT true E m_X11_sendLetter [.ref (nm 12 0), .ref (nm 3 g), .int why, .int (nI t)] S Q := by
  refine awT.of (by decide) (by decide) (Nat.le_of_ble_eq_true rfl) ?_
  obtain ⟨l, hl⟩ : ∃ l, mN M 63 = l := ⟨_, rfl⟩
  have hl2 : l < 200 := hl ▸ hL
  have hg3 : g < 300 := Nat.lt_of_lt_of_le hg R.nG
  have hcb : mN M 1 ≤ 400 := R.nC
  have hIA : mI (mSendA M g t why) := R.mI.sendA t why hg3 hL
  have h4 : sC S 4 = l := (R.cx.2.2.2.2.2.2.2.2.2.2.2.2.2.1.trans (Nat.one_mul _)).trans hl
  refine ax_new (f := 4) dX11_sendLetter_0 nw_X11_313 rfl rfl ?_
  rw [show sC S 4 = l from h4]
  refine ax_dup dX11_sendLetter_3 rfl ?_
  refine ax_aload_n (i := 1) dX11_sendLetter_4 rfl rfl rfl ?_
  refine ax_iload_n (i := 2) dX11_sendLetter_5 rfl rfl ?_
  refine ax_iload_n (i := 3) dX11_sendLetter_6 rfl rfl ?_
  refine ax_invI (n := 3) (As := [_, _, _]) dX11_sendLetter_7 cb_X3_init ci_X11_359.1 ci_X11_359.2 rfl rfl rfl ⟨Nat.le_of_ble_eq_true rfl, Nat.le_of_ble_eq_true rfl⟩ (Nat.le_of_ble_eq_true rfl) rfl (c_iLet ?_)
  refine ax_astore (lv' := [(4, _), (0, _), (1, _), (2, _), (3, _)]) dX11_sendLetter_10 (by decide) rfl rfl ?_
  refine ax_iconst (v := nI 0) dX11_sendLetter_12 (by decide) ?_
  refine ax_istore (lv' := [(5, _), (4, _), (0, _), (1, _), (2, _), (3, _)]) dX11_sendLetter_13 (by decide) rfl ?_
  refine ax_sE (S' := iL S l g why (nI t)) rfl ?_
  refine ax_loc rfl (sl_1 hl2 hg3 (sd_0 R hr0 hg hl hl2) (fun S1 N1 e1 z1 => ?_))
  refine ax_iconst (v := nI 0) dX11_sendLetter_79 (by decide) ?_
  refine ax_istore (lv' := [(5, _), (4, _), (0, _), (1, _), (2, _), (3, _)]) dX11_sendLetter_80 (by decide) rfl ?_
  refine ax_loc rfl (sl_2 hl2 hg3 z1 (fun S2 N2 e2 z2 => ?_))
  have eB : mSendB (mSendA M g t why) g l = N2 := by
    rw [← e2, ← e1, (show mN (mIter (mSend1 g l) (mN (mSendA M g t why) 30) (mSendA M g t why)) 30 = mN (mSendA M g t why) 30 from congrArg Int32.toNatClampNeg ((mSend1_inv hIA g l _ hl2 (mS_b hIA (k := 30) (b := 300) (by decide))).2 30))]
    rfl
  have R2 := z2.1
  have hI2 := z2.2.1
  obtain ⟨m, hm, hF, h67, hj⟩ := z2.2.2.2.1
  have wk := mWake_inv hI2 t
  have fe := fillRow_eq (S := S2) (M := N2) (t := t) (f := 23) (i := l) (by decide) hI2 (show hndOk N2 from R2.hO)
  have fr : cFr 23 l S2 (sRow 23 l (sFind N2 t (sStand N2 t S2))).1 := ((frStand 23 l _ _ S2).tr (frFind 23 l _ _ _)).tr (frRow 23 l _)
  have hlst : sK S2 5 = (mN (pS N2 63 (nI l)) 63, nm 4) := R2.lst.2.2.2.2.2.1
  have hl5 : mN (pS N2 63 (nI l)) 63 = l := nI_cl (by omega)
  refine ax_aload dX11_sendLetter_146 rfl rfl ?_
  refine ax_aload_n (i := 0) dX11_sendLetter_148 rfl rfl rfl ?_
  refine ax_getR dX11_sendLetter_149 fl_X11_40 rfl rfl rfl R2.tow.2.1 ?_
  refine ax_iload_n (i := 3) dX11_sendLetter_152 rfl rfl ?_
  refine ax_aload dX11_sendLetter_153 rfl rfl ?_
  refine ax_getR dX11_sendLetter_155 fl_X11_375 rfl rfl rfl hF.1.1 ?_
  refine ax_invV (c := 5) (n := 2) (As := [_, _]) dX11_sendLetter_158 cb_X4_fillRow cv_X11_378.1 cv_X11_378.2.1 cv_X11_378.2.2 rfl (by decide) rfl ⟨Nat.le_of_ble_eq_true rfl, Nat.le_of_ble_eq_true rfl⟩ (Nat.le_of_ble_eq_true rfl) rfl (c_fillRow23 (M := N2) (show rosOk S2 N2 from R2.ros) (show swpOk S2 N2 from R2.swp) (show sftOk S2 N2 from R2.sft) (show hndOk N2 from R2.hO) (by omega) hF.1.2.2.1 ?_)
  generalize hA : sRow 23 l (sFind N2 t (sStand N2 t S2)) = A at fe fr
  have hT : A.1.2 = S2.2 := fr.1
  have hR : ∀ f i j, sR A.1 f i j = sR S2 f i j := fun f i j => by unfold sR; rw [hT]
  have hCc : ∀ f, sC A.1 f = sC S2 f := fun f => by unfold sC; rw [hT]
  have hKk : ∀ q, sK A.1 q = sK S2 q := fun q => by unfold sK; rw [hT]
  have SR := send_rel R hg hl hl2 ht eB z2 fe fr rfl wk.1 wk.2.2.2.1 (by have := wk.2.2.2.2; omega) (mWake_s hI2 t) (mWake_a hI2 t) (mL_wake N2 t)
  refine ax_putI dX11_sendLetter_161 fl_X11_382 rfl rfl rfl (Or.inl rfl) rfl rfl ?_
  refine ax_aload_n (i := 0) dX11_sendLetter_164 rfl rfl rfl ?_
  refine ax_getR dX11_sendLetter_165 fl_X11_28 rfl rfl rfl (show sR (wI A.1 4 l 4 (nI A.2)) 12 0 5 = some (nm 37 0) from (hR 12 0 5).trans (R2.tow.1 5 (by decide))) ?_
  refine ax_aload dX11_sendLetter_168 rfl rfl ?_
  refine ax_invV (c := 0) (n := 1) (As := [_]) dX11_sendLetter_170 cb_Jx4a65c_add_9ea2d cv_X11_84.1 cv_X11_84.2.1 cv_X11_84.2.2 rfl (by decide) rfl ⟨Nat.le_of_ble_eq_true rfl, Nat.le_of_ble_eq_true rfl⟩ (Nat.le_of_ble_eq_true rfl) rfl (t_lsAdd (q := 5) (by decide) (show sC (wI A.1 4 l 4 (nI A.2)) (32 + 5) = 1 from (hCc _).trans (R2.lq (q := 5) (by decide))) (show sK (wI A.1 4 l 4 (nI A.2)) 5 = (l, nm 4) from (hKk 5).trans (hlst.trans (by rw [hl5]))) (by omega) (by decide) (by decide) ?_)
  refine ax_pop dX11_sendLetter_173 rfl ?_
  refine ax_aload_n (i := 1) dX11_sendLetter_174 rfl rfl rfl ?_
  refine ax_iload_n (i := 2) dX11_sendLetter_175 rfl rfl ?_
  refine ax_iconst (v := 4) dX11_sendLetter_176 (by decide) ?_
  refine ax_icmp_eq (tgt := 184) dX11_sendLetter_177 (by decide) (fun c_177 => ?_) (fun c_177 => ?_)
  · refine ax_iconst (v := 0) dX11_sendLetter_184 (by decide) ?_
    refine ax_putI dX11_sendLetter_185 fl_X11_340 rfl rfl rfl (Or.inl rfl) rfl rfl ?_
    refine ax_aload_n (i := 1) dX11_sendLetter_188 rfl rfl rfl ?_
    refine ax_iload_n (i := 3) dX11_sendLetter_189 rfl rfl ?_
    refine ax_putI dX11_sendLetter_190 fl_X11_350 rfl rfl rfl (Or.inl rfl) rfl rfl ?_
    refine ax_vret dX11_sendLetter_193 rfl ?_
    have hv : (if why = 4 then (0 : Int32) else 1) = 0 := if_pos c_177
    rw [hv] at SR
    exact h _ _ _ SR.1 SR.2.1 SR.2.2.1 SR.2.2.2 (by omega) (by have e : (oCl 4).2.2 = 11 := rfl; omega)
  · refine ax_iconst (v := 1) dX11_sendLetter_180 (by decide) ?_
    refine ax_goto (tgt := 185) dX11_sendLetter_181 (by decide) ?_
    refine ax_putI dX11_sendLetter_185 fl_X11_340 rfl rfl rfl (Or.inl rfl) rfl rfl ?_
    refine ax_aload_n (i := 1) dX11_sendLetter_188 rfl rfl rfl ?_
    refine ax_iload_n (i := 3) dX11_sendLetter_189 rfl rfl ?_
    refine ax_putI dX11_sendLetter_190 fl_X11_350 rfl rfl rfl (Or.inl rfl) rfl rfl ?_
    refine ax_vret dX11_sendLetter_193 rfl ?_
    have hv : (if why = 4 then (0 : Int32) else 1) = 1 := if_neg c_177
    rw [hv] at SR
    exact h _ _ _ SR.1 SR.2.1 SR.2.2.1 SR.2.2.2 (by omega) (by have e : (oCl 4).2.2 = 11 := rfl; omega)
