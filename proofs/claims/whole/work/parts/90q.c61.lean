theorem mJ_e {M N : aM} {r s t : Nat} {v : Int32} (hv : mFound M r s t = v) (hN : mNote M (16 * r + s) t v = N) : mJudge M r s t = mTurn N r s t := by
  unfold mJudge
  rw [hv, hN]
theorem mTurn_0 {M : aM} {r s t : Nat} (h1 : mA M 20 (16 * r + s) < 0) (h2 : ¬ (mA M 11 r ≤ mA M 18 (16 * r + s) ∧ mS M 30 < 300)) : mTurn M r s t = M := by
  unfold mTurn
  simp only []
  rw [if_pos h1, if_neg h2]
theorem mTurn_1 {M : aM} {r s t : Nat} (h1 : mA M 20 (16 * r + s) < 0) (h2 : mA M 11 r ≤ mA M 18 (16 * r + s) ∧ mS M 30 < 300) : mTurn M r s t = mBegin M r s t := by
  unfold mTurn
  simp only []
  rw [if_pos h1, if_pos h2]
theorem mTurn_2 {M : aM} {r s t : Nat} (h1 : ¬ mA M 20 (16 * r + s) < 0) (h2 : ¬ mA M 12 r ≤ mA M 19 (16 * r + s)) : mTurn M r s t = M := by
  unfold mTurn
  simp only []
  rw [if_neg h1, if_neg h2]
theorem mTurn_3 {M : aM} {r s t : Nat} (h1 : ¬ mA M 20 (16 * r + s) < 0) (h2 : mA M 12 r ≤ mA M 19 (16 * r + s)) : mTurn M r s t = pA (pA M 34 (mE M 20 (16 * r + s)) (nI t)) 20 (16 * r + s) (-1) := by
  unfold mTurn
  simp only []
  rw [if_neg h1, if_pos h2]
theorem zz_S {M N : aM} (h : ∀ k, mS N k = mS M k) : zz N = zz M := by
  unfold zz mN
  rw [h, h, h]

set_option maxHeartbeats 1000000 in
set_option maxRecDepth 100000 in
theorem lookAt_65 {E : awE} {S : awS} {N : aM} {τ : Nat → Nat → Nat} {Q : Option Value → awS → Nat → Nat → Prop} {r s T : Nat} {v : Int32} (R : cR τ S N) (hr : r < mN N 6) (hs : s < mN N 2) (hT : T + 1 ≤ 400) (hsite : ¬ (0 ≤ mA N 14 r ∧ ¬ mA N 14 r = mA N 3 s)) (h : ∀ S1 kc ks, ∀ N1, cR τ S1 N1 → cFm S S1 → mTurn N r s (T + 1) = N1 → kc + 4 * zz N ≤ 4 * zz N1 → ks + 1300 * zz N ≤ 1300 * zz N1 → Q none S1 kc ks) : awX true E m_X11_lookAt 65 [(5, .int v), (4, .ref (nm 11 (16 * r + s))), (0, .ref (nm 12 0)), (1, .ref (nm 6 r)), (2, .ref (nm 9 s)), (3, .int (nI (T + 1)))] [] S 0 0 Q := by
  have hs16 : s < 16 := Nat.lt_of_lt_of_le hs R.nS
  have hr16 : r < 16 := Nat.lt_of_lt_of_le hr R.nR
  have hw := R.wat3 hr hs16
  have hwt : sI S 6 r 4 = mA N 11 r := R.int (f := 6) (k := 4) (m := 11) (q := 6) (by decide) hr
  have hen : sI S 6 r 5 = mA N 12 r := R.int (f := 6) (k := 5) (m := 12) (q := 6) (by decide) hr
  have htr : sI S 11 (16 * r + s) 2 = mA N 18 (16 * r + s) := R.int (f := 11) (k := 2) (m := 18) (q := 100) (by decide) hw
  have hfa : sI S 11 (16 * r + s) 3 = mA N 19 (16 * r + s) := R.int (f := 11) (k := 3) (m := 19) (q := 100) (by decide) hw
  refine ax_aload dX11_lookAt_65 rfl rfl ?_
  refine ax_getQ dX11_lookAt_67 fl_X11_219 rfl rfl rfl rfl ?_
  refine ax_ifnonnull (tgt := 97) dX11_lookAt_70 (by decide) (fun n_70 c_70 => ?_) (fun c_70 => ?_)
  · have hl := R.watI hw c_70
    refine ax_aload dX11_lookAt_97 rfl rfl ?_
    refine ax_getQ dX11_lookAt_99 fl_X11_219 rfl rfl rfl rfl ?_
    refine ax_ifnull (tgt := 132) dX11_lookAt_102 (by decide) (fun c_102 => ?_) (fun n_102 c_102 => ?_)
    · refine ax_vret dX11_lookAt_132 rfl ?_
      exact absurd (c_70.symm.trans c_102) (fun z => by cases z)
    · 
      refine ax_aload dX11_lookAt_105 rfl rfl ?_
      refine ax_getI dX11_lookAt_107 fl_X11_233 rfl rfl rfl ?_
      refine ax_aload_n (i := 1) dX11_lookAt_110 rfl rfl rfl ?_
      refine ax_getI dX11_lookAt_111 fl_X11_236 rfl rfl rfl ?_
      refine ax_icmp_lt (tgt := 132) dX11_lookAt_114 (by decide) (fun c_114 => ?_) (fun c_114 => ?_)
      · refine ax_vret dX11_lookAt_132 rfl ?_
        exact h _ _ _ _ R cFm.rf (mTurn_2 hl (fun z => absurd c_114 (Int32.not_lt.mpr (by rw [hen, hfa]; exact z)))) (by rw [Nat.zero_add]; exact Nat.le_refl _) (by rw [Nat.zero_add]; exact Nat.le_refl _)
      · refine ax_aload dX11_lookAt_117 rfl rfl ?_
        refine ax_getR dX11_lookAt_119 fl_X11_219 rfl rfl rfl (R.watS hw hl) ?_
        refine ax_iload_n (i := 3) dX11_lookAt_122 rfl rfl ?_
        refine ax_invV (c := 1) (n := 1) (As := [_]) dX11_lookAt_123 cb_X0_end cv_X11_239.1 cv_X11_239.2.1 cv_X11_239.2.2 rfl (by decide) rfl ⟨Nat.le_of_ble_eq_true rfl, Nat.le_of_ble_eq_true rfl⟩ (Nat.le_of_ble_eq_true rfl) rfl (c_end ?_)
        refine ax_aload dX11_lookAt_126 rfl rfl ?_
        refine ax_null dX11_lookAt_128 ?_
        refine ax_putN dX11_lookAt_129 fl_X11_219 rfl rfl rfl (Or.inl rfl) ?_
        refine ax_vret dX11_lookAt_132 rfl ?_
        exact h _ _ _ _ (R.stop hw hl rfl ⟨by omega, by omega⟩) (((((cFm.xI ⟨by decide, by decide, by decide⟩).tr (cFm.xI ⟨by decide, by decide, by decide⟩)).tr (cFm.xI ⟨by decide, by decide, by decide⟩)).tr (cFm.xI ⟨by decide, by decide, by decide⟩)).tr (cFm.xR ⟨by decide, by decide, by decide⟩)) (mTurn_3 hl (by rw [← hen, ← hfa]; exact Int32.not_lt.mp c_114)) (by rw [Nat.zero_add]; exact Nat.le_refl _) (by rw [Nat.zero_add]; exact Nat.le_refl _)
  · have hl := R.watJ hw c_70
    refine ax_aload dX11_lookAt_73 rfl rfl ?_
    refine ax_getI dX11_lookAt_75 fl_X11_223 rfl rfl rfl ?_
    refine ax_aload_n (i := 1) dX11_lookAt_78 rfl rfl rfl ?_
    refine ax_getI dX11_lookAt_79 fl_X11_226 rfl rfl rfl ?_
    refine ax_icmp_lt (tgt := 97) dX11_lookAt_82 (by decide) (fun c_82 => ?_) (fun c_82 => ?_)
    · refine ax_aload dX11_lookAt_97 rfl rfl ?_
      refine ax_getQ dX11_lookAt_99 fl_X11_219 rfl rfl rfl rfl ?_
      refine ax_ifnull (tgt := 132) dX11_lookAt_102 (by decide) (fun c_102 => ?_) (fun n_102 c_102 => ?_)
      · refine ax_vret dX11_lookAt_132 rfl ?_
        exact h _ _ _ _ R cFm.rf (mTurn_0 hl (fun z => absurd c_82 (Int32.not_lt.mpr (by rw [hwt, htr]; exact z.1)))) (by rw [Nat.zero_add]; exact Nat.le_refl _) (by rw [Nat.zero_add]; exact Nat.le_refl _)
      · have hl := R.watI hw c_102
        refine ax_aload dX11_lookAt_105 rfl rfl ?_
        refine ax_getI dX11_lookAt_107 fl_X11_233 rfl rfl rfl ?_
        refine ax_aload_n (i := 1) dX11_lookAt_110 rfl rfl rfl ?_
        refine ax_getI dX11_lookAt_111 fl_X11_236 rfl rfl rfl ?_
        refine ax_icmp_lt (tgt := 132) dX11_lookAt_114 (by decide) (fun c_114 => ?_) (fun c_114 => ?_)
        · refine ax_vret dX11_lookAt_132 rfl ?_
          exact absurd (c_70.symm.trans c_102) (fun z => by cases z)
        · refine ax_aload dX11_lookAt_117 rfl rfl ?_
          refine ax_getR dX11_lookAt_119 fl_X11_219 rfl rfl rfl (R.watS hw hl) ?_
          refine ax_iload_n (i := 3) dX11_lookAt_122 rfl rfl ?_
          refine ax_invV (c := 1) (n := 1) (As := [_]) dX11_lookAt_123 cb_X0_end cv_X11_239.1 cv_X11_239.2.1 cv_X11_239.2.2 rfl (by decide) rfl ⟨Nat.le_of_ble_eq_true rfl, Nat.le_of_ble_eq_true rfl⟩ (Nat.le_of_ble_eq_true rfl) rfl (c_end ?_)
          refine ax_aload dX11_lookAt_126 rfl rfl ?_
          refine ax_null dX11_lookAt_128 ?_
          refine ax_putN dX11_lookAt_129 fl_X11_219 rfl rfl rfl (Or.inl rfl) ?_
          refine ax_vret dX11_lookAt_132 rfl ?_
          exact absurd (c_70.symm.trans c_102) (fun z => by cases z)
    · refine ax_aload_n (i := 0) dX11_lookAt_85 rfl rfl rfl ?_
      refine ax_aload_n (i := 1) dX11_lookAt_86 rfl rfl rfl ?_
      refine ax_aload_n (i := 2) dX11_lookAt_87 rfl rfl rfl ?_
      refine ax_aload dX11_lookAt_88 rfl rfl ?_
      refine ax_iload_n (i := 3) dX11_lookAt_90 rfl rfl ?_
      refine ax_invV (c := 12) (n := 4) (As := [_, _, _, _]) dX11_lookAt_91 cb_X11_beginAlarm cv_X11_229.1 cv_X11_229.2.1 cv_X11_229.2.2 rfl (by decide) rfl ⟨Nat.le_of_ble_eq_true rfl, Nat.le_of_ble_eq_true rfl⟩ (Nat.le_of_ble_eq_true rfl) rfl (c_beginAlarm (w := (16 * r + s)) R hr hs (fun c_91 => ?_) (fun c_91 => ?_))
      · 
        refine ax_goto (tgt := 132) dX11_lookAt_94 (by decide) ?_
        refine ax_vret dX11_lookAt_132 rfl ?_
        exact h _ _ _ _ R cFm.rf (mTurn_0 hl (fun z => absurd z.2 (by rw [mS_nI R.mI (k := 30) (b := 300) (by decide), c_91]; exact Int32.lt_irrefl))) (by rw [Nat.zero_add]; exact Nat.le_refl _) (by rw [Nat.zero_add]; exact Nat.le_refl _)
      · intro g q kc ks hgq hkc hks
        refine ax_goto (tgt := 132) dX11_lookAt_94 (by decide) ?_
        refine ax_vret dX11_lookAt_132 rfl ?_
        have eb := begM (t := T + 1) R hgq
        have eT : mTurn N r s (T + 1) = bgM N (mN N 30) r s g (16 * r + s) (nI (T + 1)) q := (mTurn_1 hl ⟨by rw [← hwt, ← htr]; exact Int32.not_lt.mp c_82, by rw [mS_nI R.mI (k := 30) (b := 300) (by decide)]; exact nI_lt (b := 300) c_91 (by decide)⟩).trans eb
        have hI : mIx 0 (bgM N (mN N 30) r s g (16 * r + s) (nI (T + 1)) q) := by rw [← eb]; exact R.mI.begin (T + 1) hr16 hs16 c_91
        have hz : zz (bgM N (mN N 30) r s g (16 * r + s) (nI (T + 1)) q) = zz N + (if q = true then 2 else 1) := zz_bg c_91 (by rcases hgq with y | y <;> have := R.nG <;> omega) rfl (fun y => by rcases hgq with w | w; rw [w.1] at y; exact absurd y (by decide); exact w.2.1.symm)
        have hgq2 : (q = false ∧ g < mN N 48) ∨ (q = true ∧ g = mN N 48) := hgq.elim (fun y => Or.inl ⟨y.1, y.2.1⟩) (fun y => Or.inr ⟨y.1, y.2.1⟩)
        have hga := R.mI.ga
        refine h _ _ _ _ (R.beg hr hs rfl rfl c_91 hgq2 ⟨by omega, by omega⟩ hl hsite hI) cFm.bg eT ?_ ?_
        · rw [hz]
          by_cases c : q = true
          · rw [if_pos c] at hkc ⊢; omega
          · rw [if_neg c] at hkc ⊢; omega
        · rw [hz]
          by_cases c : q = true
          · rw [if_pos c] at hks ⊢; omega
          · rw [if_neg c] at hks ⊢; omega
