theorem if_cg {α : Type} {p q : Prop} [Decidable p] [Decidable q] {x y : α} (h : p ↔ q) : (if p then x else y) = if q then x else y := by
  by_cases c : p
  · rw [if_pos c, if_pos (h.mp c)]
  · rw [if_neg c, if_neg (fun z => c (h.mpr z))]
theorem mBoth_0 {x y : Int32} (h : x = 0 ∨ y = 0) : mBoth x y = 0 := by
  unfold mBoth
  rw [if_neg (fun z => h.elim (fun q => absurd (q.symm.trans z.1) (by decide)) (fun q => absurd (q.symm.trans z.2) (by decide))), if_pos h]
theorem mBoth_m {x y : Int32} (h0 : ¬ x = 0) (h1 : ¬ y = 0) (h2 : ¬ (x = 1 ∧ y = 1)) : mBoth x y = -1 := by
  unfold mBoth
  rw [if_neg h2, if_neg (fun z => z.elim h0 h1)]

set_option maxHeartbeats 400000 in
set_option maxRecDepth 100000 in
theorem c_truthOfBoth {E : awE} {S : awS} {M : aM} {τ : Nat → Nat → Nat} {Q : Option Value → awS → Nat → Nat → Prop} (R : cR τ S M) {r s t : Nat} (hr : r < mN M 6) (hs : s < mN M 2) (hτ : ∀ q, q < r → τ q s = t) (hsite : ¬ (0 ≤ mA M 14 r ∧ ¬ mA M 14 r = mA M 3 s)) (h6 : mA M 7 r = 6) (h : Q (some (.int (mFound M r s t))) S 0 0) : awT true E m_X11_truthOfBoth [.ref (nm 12 0), .ref (nm 6 r), .ref (nm 9 s)] S Q := by
  refine awT.of (by decide) (by decide) (Nat.le_of_ble_eq_true rfl) ?_
  have hs16 : s < 16 := Nat.lt_of_lt_of_le hs R.nS
  have hr16 : r < 16 := Nat.lt_of_lt_of_le hr R.nR
  have eR : mS M 6 = nI (mN M 6) := mS_nI R.mI (k := 6) (b := 16) (by decide)
  have eSo : mS M 2 = nI (mN M 2) := mS_nI R.mI (k := 2) (b := 16) (by decide)
  have e16 := R.nR
  have e16s := R.nS
  have eL2 : sL S 6 r 2 = mL M 9 r := R.la r hr
  have eb : sI S 6 r 3 = mA M 10 r := R.int (f := 6) (k := 3) (m := 10) (q := 6) (by decide) hr
  have hi := (R.inv.2.2.2.2.2.2.1 r hr).2.2.2.2 h6
  have hg := (R.mI.i6 hr16).1 h6
  have es0 : sI S 9 s 0 = nI s := (R.src s hs).2.2.2.2
  have oks : okSource M (nI s) := ⟨nI_nn (by omega), by rw [eSo]; exact nI_lt hs (by omega)⟩
  have ok1 : okRule M (sL S 6 r 2).toInt32 := by
    rw [eL2]
    refine ⟨?_, ?_⟩
    · rw [hg.1.1]; exact nI_nn (by omega)
    · rw [hg.1.1, eR]; exact nI_lt (by omega) (by omega)
  have ok2 : okRule M (sI S 6 r 3) := by
    rw [eb]
    refine ⟨?_, ?_⟩
    · rw [hg.2.1]; exact nI_nn (by omega)
    · rw [hg.2.1, eR]; exact nI_lt (by omega) (by omega)
  have ens : nN (nI s) = s := nI_cl (by omega)
  have e1 : (sI S 11 (16 * nN (sL S 6 r 2).toInt32 + nN (nI s)) 0) = mTru M (mL M 9 r).toInt32.toNatClampNeg s t := by
    rw [ens, eL2, R.tru _ s (Nat.lt_trans hi.1 hr) hs16, hτ _ hi.1]
    rfl
  have e2 : (sI S 11 (16 * nN (sI S 6 r 3) + nN (nI s)) 0) = mTru M (mE M 10 r) s t := by
    rw [ens, eb]
    show sI S 11 (16 * mE M 10 r + s) 0 = _
    rw [R.tru _ s (Nat.lt_trans hi.2 hr) hs16, hτ _ hi.2]
  refine ax_aload_n (i := 0) dX11_truthOfBoth_0 rfl rfl rfl ?_
  refine ax_aload_n (i := 1) dX11_truthOfBoth_1 rfl rfl rfl ?_
  refine ax_getL dX11_truthOfBoth_2 fl_X11_243 rfl rfl rfl ?_
  refine ax_l2i dX11_truthOfBoth_5 ?_
  refine ax_aload_n (i := 2) dX11_truthOfBoth_6 rfl rfl rfl ?_
  refine ax_getI dX11_truthOfBoth_7 fl_X11_190 rfl rfl rfl ?_
  refine ax_top es0 ?_
  refine ax_invV (c := 12) (n := 2) (As := [_, _]) dX11_truthOfBoth_10 cb_X11_watchOf cv_X11_247.1 cv_X11_247.2.1 cv_X11_247.2.2 rfl (by decide) rfl ⟨Nat.le_of_ble_eq_true rfl, Nat.le_of_ble_eq_true rfl⟩ (Nat.le_of_ble_eq_true rfl) rfl (c_watchOf R (fun c_10 => ?_) (fun c_10 => ?_))
  · refine ax_astore_n (i := 3) (lv' := [(3, _), (0, _), (1, _), (2, _)]) dX11_truthOfBoth_13 rfl (by decide) rfl rfl ?_
    refine ax_aload_n (i := 0) dX11_truthOfBoth_14 rfl rfl rfl ?_
    refine ax_aload_n (i := 1) dX11_truthOfBoth_15 rfl rfl rfl ?_
    refine ax_getI dX11_truthOfBoth_16 fl_X11_251 rfl rfl rfl ?_
    refine ax_aload_n (i := 2) dX11_truthOfBoth_19 rfl rfl rfl ?_
    refine ax_getI dX11_truthOfBoth_20 fl_X11_190 rfl rfl rfl ?_
    refine ax_top es0 ?_
    refine ax_invV (c := 12) (n := 2) (As := [_, _]) dX11_truthOfBoth_23 cb_X11_watchOf cv_X11_247.1 cv_X11_247.2.1 cv_X11_247.2.2 rfl (by decide) rfl ⟨Nat.le_of_ble_eq_true rfl, Nat.le_of_ble_eq_true rfl⟩ (Nat.le_of_ble_eq_true rfl) rfl (c_watchOf R (fun c_23 => ?_) (fun c_23 => ?_))
    · refine ax_astore (lv' := [(4, _), (3, _), (0, _), (1, _), (2, _)]) dX11_truthOfBoth_26 (by decide) rfl rfl ?_
      refine ax_aload_n (i := 3) dX11_truthOfBoth_28 rfl rfl rfl ?_
      refine ax_ifnull_f (k0 := 37) dX11_truthOfBoth_29 (by decide) ?_
      refine ax_aload dX11_truthOfBoth_32 rfl rfl ?_
      refine ax_ifnonnull_t (tgt := 39) dX11_truthOfBoth_34 (by decide) ?_
      refine ax_aload_n (i := 3) dX11_truthOfBoth_39 rfl rfl rfl ?_
      refine ax_getI dX11_truthOfBoth_40 fl_X11_254 rfl rfl rfl ?_
      refine ax_if_eq (tgt := 54) dX11_truthOfBoth_43 (by decide) (fun c_43 => ?_) (fun c_43 => ?_)
      · refine ax_iconst (v := 0) dX11_truthOfBoth_54 (by decide) ?_
        refine ax_iret dX11_truthOfBoth_55 rfl rfl ?_
        exact fin1 h ((if_neg hsite).trans ((if_neg (fun z => absurd (h6.symm.trans z) (by decide))).trans ((if_pos h6).trans (mBoth_0 (Or.inl (e1.symm.trans c_43))))))
      · refine ax_aload dX11_truthOfBoth_46 rfl rfl ?_
        refine ax_getI dX11_truthOfBoth_48 fl_X11_254 rfl rfl rfl ?_
        refine ax_if_ne (tgt := 56) dX11_truthOfBoth_51 (by decide) (fun c_51 => ?_) (fun c_51 => ?_)
        · refine ax_aload_n (i := 3) dX11_truthOfBoth_56 rfl rfl rfl ?_
          refine ax_getI dX11_truthOfBoth_57 fl_X11_254 rfl rfl rfl ?_
          refine ax_iconst (v := 1) dX11_truthOfBoth_60 (by decide) ?_
          refine ax_icmp_ne (tgt := 77) dX11_truthOfBoth_61 (by decide) (fun c_61 => ?_) (fun c_61 => ?_)
          · refine ax_iconst (v := -1) dX11_truthOfBoth_77 (by decide) ?_
            refine ax_iret dX11_truthOfBoth_78 rfl rfl ?_
            exact fin1 h ((if_neg hsite).trans ((if_neg (fun z => absurd (h6.symm.trans z) (by decide))).trans ((if_pos h6).trans (mBoth_m (fun z => c_43 (e1.trans z)) (fun z => c_51 (e2.trans z)) (fun z => c_61 (e1.trans z.1))))))
          · refine ax_aload dX11_truthOfBoth_64 rfl rfl ?_
            refine ax_getI dX11_truthOfBoth_66 fl_X11_254 rfl rfl rfl ?_
            refine ax_iconst (v := 1) dX11_truthOfBoth_69 (by decide) ?_
            refine ax_icmp_ne (tgt := 77) dX11_truthOfBoth_70 (by decide) (fun c_70 => ?_) (fun c_70 => ?_)
            · refine ax_iconst (v := -1) dX11_truthOfBoth_77 (by decide) ?_
              refine ax_iret dX11_truthOfBoth_78 rfl rfl ?_
              exact fin1 h ((if_neg hsite).trans ((if_neg (fun z => absurd (h6.symm.trans z) (by decide))).trans ((if_pos h6).trans (mBoth_m (fun z => c_43 (e1.trans z)) (fun z => c_51 (e2.trans z)) (fun z => c_70 (e2.trans z.2))))))
            · refine ax_iconst (v := 1) dX11_truthOfBoth_73 (by decide) ?_
              refine ax_goto (tgt := 78) dX11_truthOfBoth_74 (by decide) ?_
              refine ax_iret dX11_truthOfBoth_78 rfl rfl ?_
              exact fin1 h ((if_neg hsite).trans ((if_neg (fun z => absurd (h6.symm.trans z) (by decide))).trans ((if_pos h6).trans (if_pos ⟨e1.symm.trans (Classical.not_not.mp c_61), e2.symm.trans (Classical.not_not.mp c_70)⟩))))
        · refine ax_iconst (v := 0) dX11_truthOfBoth_54 (by decide) ?_
          refine ax_iret dX11_truthOfBoth_55 rfl rfl ?_
          exact fin1 h ((if_neg hsite).trans ((if_neg (fun z => absurd (h6.symm.trans z) (by decide))).trans ((if_pos h6).trans (mBoth_0 (Or.inr (e2.symm.trans (Classical.not_not.mp c_51)))))))
    · exact absurd ⟨ok2, oks⟩ c_23
  · exact absurd ⟨ok1, oks⟩ c_10
def nvT (v x : Int32) : Int32 := if v = 1 then x + 1 else if v = 0 then 0 else x
def nvF (v x : Int32) : Int32 := if v = 0 then x + 1 else if v = 1 then 0 else x
def nvK (v x : Int32) : Int32 := if v < 0 then x else v
def noN (S : awS) (w : Nat) (v : Int32) : awS := (fun f i j => if f = 11 ∧ i = w ∧ j = 0 then v else if f = 11 ∧ i = w ∧ j = 1 then nvK v (sI S 11 w 1) else if f = 11 ∧ i = w ∧ j = 2 then nvT v (sI S 11 w 2) else if f = 11 ∧ i = w ∧ j = 3 then nvF v (sI S 11 w 3) else S.1 f i j, S.2)
theorem no_m (S : awS) (w : Nat) : wI S 11 w 0 (-1) = noN S w (-1) := by
  unfold noN wI u3
  refine Prod.ext ?_ rfl
  funext f i j
  rw [show nvK (-1) (sI S 11 w 1) = sI S 11 w 1 from if_pos (by decide), show nvT (-1) (sI S 11 w 2) = sI S 11 w 2 from rfl, show nvF (-1) (sI S 11 w 3) = sI S 11 w 3 from rfl]
  unfold sI
  dsimp only
  grind
theorem no_1 (S : awS) (w : Nat) : wI (wI (wI (wI S 11 w 0 1) 11 w 1 1) 11 w 2 (sI S 11 w 2 + 1)) 11 w 3 0 = noN S w 1 := by
  unfold noN wI u3
  refine Prod.ext ?_ rfl
  funext f i j
  rw [show nvK 1 (sI S 11 w 1) = 1 from if_neg (by decide), show nvT 1 (sI S 11 w 2) = sI S 11 w 2 + 1 from rfl, show nvF 1 (sI S 11 w 3) = 0 from rfl]
  unfold sI
  dsimp only
  grind
theorem no_0 (S : awS) (w : Nat) : wI (wI (wI (wI S 11 w 0 0) 11 w 1 0) 11 w 2 0) 11 w 3 (sI S 11 w 3 + 1) = noN S w 0 := by
  unfold noN wI u3
  refine Prod.ext ?_ rfl
  funext f i j
  rw [show nvK 0 (sI S 11 w 1) = 0 from if_neg (by decide), show nvT 0 (sI S 11 w 2) = 0 from rfl, show nvF 0 (sI S 11 w 3) = sI S 11 w 3 + 1 from rfl]
  unfold sI
  dsimp only
  grind
theorem c_note2 {E : awE} {S : awS} {Q : Option Value → awS → Nat → Nat → Prop} {w : Nat} {v : Int32} (hv : v = -1 ∨ v = 0 ∨ v = 1) (h : Q none (noN S w v) 0 0) : awT true E m_X10_note [.ref (nm 11 w), .int v] S Q := by
  refine c_note (fun z => ?_) (fun _ z => ?_) (fun z1 z2 => ?_)
  · subst z; rw [no_m]; exact h
  · subst z; rw [no_1]; exact h
  · have e : v = 0 := (hv.resolve_left z1).resolve_right z2
    subst e; rw [no_0]; exact h
-- imagine
abbrev imC (S : awS) (w j : Nat) : Prop := sI S 22 w j = 0 ∧ nI j ≤ sI S 11 w 2
abbrev imD (S : awS) (r w j : Nat) : Prop := ¬ sI S 22 w j = 0 ∧ sI S 6 r 5 ≤ sI S 11 w 3
def imA (S : awS) (r w k : Nat) : awS := (fun f i j => if f = 22 ∧ i = w ∧ 1 ≤ j ∧ j ≤ k then (if imC S w j then 1 else if imD S r w j then 0 else sI S 22 w j) else if f = 20 ∧ i = r ∧ 1 ≤ j ∧ j ≤ k then (if imC S w j then sI S 20 r j + 1 else sI S 20 r j) else S.1 f i j, S.2)
theorem im_0 (S : awS) (r w : Nat) : imA S r w 0 = S := by
  unfold imA
  refine Prod.ext ?_ rfl
  funext f i j
  dsimp only
  rw [if_neg (by omega), if_neg (by omega)]
theorem im_r (S : awS) (r w k : Nat) : sI (imA S r w k) 22 w (k + 1) = sI S 22 w (k + 1) := by
  show (if 22 = 22 ∧ w = w ∧ 1 ≤ k + 1 ∧ k + 1 ≤ k then (if imC S w (k + 1) then 1 else if imD S r w (k + 1) then 0 else sI S 22 w (k + 1)) else if 22 = 20 ∧ w = r ∧ 1 ≤ k + 1 ∧ k + 1 ≤ k then (if imC S w (k + 1) then sI S 20 r (k + 1) + 1 else sI S 20 r (k + 1)) else S.1 22 w (k + 1)) = _
  rw [if_neg (by omega), if_neg (by omega)]
  rfl
theorem im_A {S : awS} {r w k : Nat} (h1 : ¬ imC S w (k + 1)) (h2 : ¬ imD S r w (k + 1)) : imA S r w k = imA S r w (k + 1) := by
  unfold imA
  refine Prod.ext ?_ rfl
  funext f i j
  dsimp only
  by_cases e : j = k + 1
  · subst e
    rw [if_neg (by omega), if_neg (by omega)]
    by_cases c1 : f = 22 ∧ i = w
    · obtain ⟨rfl, rfl⟩ := c1
      rw [if_pos (by omega), if_neg h1, if_neg h2]
      rfl
    · rw [if_neg (fun z => c1 ⟨z.1, z.2.1⟩)]
      by_cases c2 : f = 20 ∧ i = r
      · obtain ⟨rfl, rfl⟩ := c2
        rw [if_pos (by omega), if_neg h1]
        rfl
      · rw [if_neg (fun z => c2 ⟨z.1, z.2.1⟩)]
  · rw [if_cg (show (f = 22 ∧ i = w ∧ 1 ≤ j ∧ j ≤ k) ↔ (f = 22 ∧ i = w ∧ 1 ≤ j ∧ j ≤ k + 1) by omega), if_cg (show (f = 20 ∧ i = r ∧ 1 ≤ j ∧ j ≤ k) ↔ (f = 20 ∧ i = r ∧ 1 ≤ j ∧ j ≤ k + 1) by omega)]
theorem im_B {S : awS} {r w k : Nat} (h1 : imC S w (k + 1)) : wI (wI (imA S r w k) 22 w (k + 1) 1) 20 r (k + 1) (sI (wI (imA S r w k) 22 w (k + 1) 1) 20 r (k + 1) + 1) = imA S r w (k + 1) := by
  have e0 : sI (wI (imA S r w k) 22 w (k + 1) 1) 20 r (k + 1) = sI S 20 r (k + 1) := by
    rw [sI_wI, if_neg (fun z => absurd z.1 (by decide))]
    show (if 20 = 22 ∧ r = w ∧ 1 ≤ k + 1 ∧ k + 1 ≤ k then (if imC S w (k + 1) then 1 else if imD S r w (k + 1) then 0 else sI S 22 w (k + 1)) else if 20 = 20 ∧ r = r ∧ 1 ≤ k + 1 ∧ k + 1 ≤ k then (if imC S w (k + 1) then sI S 20 r (k + 1) + 1 else sI S 20 r (k + 1)) else S.1 20 r (k + 1)) = _
    rw [if_neg (by omega), if_neg (by omega)]
    rfl
  rw [e0]
  refine Prod.ext ?_ rfl
  funext f i j
  show (if f = 20 ∧ i = r ∧ j = k + 1 then sI S 20 r (k + 1) + 1 else if f = 22 ∧ i = w ∧ j = k + 1 then 1 else (imA S r w k).1 f i j) = (imA S r w (k + 1)).1 f i j
  unfold imA
  dsimp only
  by_cases e : j = k + 1
  · subst e
    by_cases c2 : f = 20 ∧ i = r
    · obtain ⟨rfl, rfl⟩ := c2
      rw [if_pos (by omega), if_neg (by omega), if_pos (by omega), if_pos h1]
    · rw [if_neg (fun z => c2 ⟨z.1, z.2.1⟩)]
      by_cases c1 : f = 22 ∧ i = w
      · obtain ⟨rfl, rfl⟩ := c1
        rw [if_pos (by omega), if_pos (by omega), if_pos h1]
      · rw [if_neg (fun z => c1 ⟨z.1, z.2.1⟩), if_neg (by omega), if_neg (by omega), if_neg (fun z => c1 ⟨z.1, z.2.1⟩), if_neg (fun z => c2 ⟨z.1, z.2.1⟩)]
  · rw [if_neg (fun z => e z.2.2), if_neg (fun z => e z.2.2), if_cg (show (f = 22 ∧ i = w ∧ 1 ≤ j ∧ j ≤ k) ↔ (f = 22 ∧ i = w ∧ 1 ≤ j ∧ j ≤ k + 1) by omega), if_cg (show (f = 20 ∧ i = r ∧ 1 ≤ j ∧ j ≤ k) ↔ (f = 20 ∧ i = r ∧ 1 ≤ j ∧ j ≤ k + 1) by omega)]
theorem im_D {S : awS} {r w k : Nat} (h1 : ¬ imC S w (k + 1)) (h2 : imD S r w (k + 1)) : wI (imA S r w k) 22 w (k + 1) 0 = imA S r w (k + 1) := by
  refine Prod.ext ?_ rfl
  funext f i j
  show (if f = 22 ∧ i = w ∧ j = k + 1 then 0 else (imA S r w k).1 f i j) = (imA S r w (k + 1)).1 f i j
  unfold imA
  dsimp only
  by_cases e : j = k + 1
  · subst e
    by_cases c1 : f = 22 ∧ i = w
    · obtain ⟨rfl, rfl⟩ := c1
      rw [if_pos (by omega), if_pos (by omega), if_neg h1, if_pos h2]
    · rw [if_neg (fun z => c1 ⟨z.1, z.2.1⟩), if_neg (by omega), if_neg (by omega), if_neg (fun z => c1 ⟨z.1, z.2.1⟩)]
      by_cases c2 : f = 20 ∧ i = r
      · obtain ⟨rfl, rfl⟩ := c2
        rw [if_pos (by omega), if_neg h1]
        rfl
      · rw [if_neg (fun z => c2 ⟨z.1, z.2.1⟩)]
  · rw [if_neg (fun z => e z.2.2), if_cg (show (f = 22 ∧ i = w ∧ 1 ≤ j ∧ j ≤ k) ↔ (f = 22 ∧ i = w ∧ 1 ≤ j ∧ j ≤ k + 1) by omega), if_cg (show (f = 20 ∧ i = r ∧ 1 ≤ j ∧ j ≤ k) ↔ (f = 20 ∧ i = r ∧ 1 ≤ j ∧ j ≤ k + 1) by omega)]

set_option maxHeartbeats 400000 in
set_option maxRecDepth 100000 in
theorem c_imagine {E : awE} {S : awS} {Q : Option Value → awS → Nat → Nat → Prop} {r s : Nat} (hr : rulOk S r) (hw : watOk S r s) (h : Q none (imA S r (16 * r + s) 10) 0 0) : awT true E m_X5_imagine [.ref (nm 6 r), .ref (nm 11 (16 * r + s))] S Q := by
  refine awT.of (by decide) (by decide) (Nat.le_of_ble_eq_true rfl) ?_
  have L : ∀ (m k : Nat), k + m = 10 → awX true E m_X5_imagine 2 [(2, .int (nI (k + 1))), (0, .ref (nm 6 r)), (1, .ref (nm 11 (16 * r + s)))] [] (imA S r (16 * r + s) k) 0 0 Q := by
    intro m
    induction m with
    | zero =>
      intro k hm
      refine ax_iload_n (i := 2) dX5_imagine_2 rfl rfl ?_
      refine ax_aload_n (i := 0) dX5_imagine_3 rfl rfl rfl ?_
      refine ax_getR dX5_imagine_4 fl_X5_21 rfl rfl rfl hr.2.2.1 ?_
      refine ax_alenN dX5_imagine_7 (by decide) rfl hr.2.2.2.2.2.2.1 ?_
      refine ax_icmp_ge (tgt := 90) dX5_imagine_8 (by decide) (fun c_8 => ?_) (fun c_8 => ?_)
      · refine ax_vret dX5_imagine_90 rfl ?_
        rw [show k = 10 by omega]
        exact h
      · exact absurd (nI_le (a := 11) (b := k + 1) (by omega) (by omega)) c_8
    | succ m ih =>
      intro k hm
      refine ax_iload_n (i := 2) dX5_imagine_2 rfl rfl ?_
      refine ax_aload_n (i := 0) dX5_imagine_3 rfl rfl rfl ?_
      refine ax_getR dX5_imagine_4 fl_X5_21 rfl rfl rfl hr.2.2.1 ?_
      refine ax_alenN dX5_imagine_7 (by decide) rfl hr.2.2.2.2.2.2.1 ?_
      refine ax_icmp_ge (tgt := 90) dX5_imagine_8 (by decide) (fun c_8 => ?_) (fun c_8 => ?_)
      · exact absurd c_8 (Int32.not_le.mpr (nI_lt (by omega) (by decide)))
      · refine ax_iload_n (i := 2) dX5_imagine_11 rfl rfl ?_
        refine ax_aload_n (i := 1) dX5_imagine_12 rfl rfl rfl ?_
        refine ax_getR dX5_imagine_13 fl_X5_106 rfl rfl rfl hw.2.1 ?_
        refine ax_alenN dX5_imagine_16 (by decide) rfl hw.2.2 ?_
        refine ax_icmp_ge (tgt := 90) dX5_imagine_17 (by decide) (fun c_17 => ?_) (fun c_17 => ?_)
        · exact absurd c_17 (Int32.not_le.mpr (nI_lt (by omega) (by decide)))
        · refine ax_aload_n (i := 1) dX5_imagine_20 rfl rfl rfl ?_
          refine ax_getR dX5_imagine_21 fl_X5_106 rfl rfl rfl hw.2.1 ?_
          refine ax_iload_n (i := 2) dX5_imagine_24 rfl rfl ?_
          refine ax_zaldN dX5_imagine_25 rfl rfl hw.2.2 (by decide) (by omega) ?_
          refine ax_if_ne (tgt := 57) dX5_imagine_26 (by decide) (fun c_26 => ?_) (fun c_26 => ?_)
          · refine ax_aload_n (i := 1) dX5_imagine_57 rfl rfl rfl ?_
            refine ax_getR dX5_imagine_58 fl_X5_106 rfl rfl rfl hw.2.1 ?_
            refine ax_iload_n (i := 2) dX5_imagine_61 rfl rfl ?_
            refine ax_zaldN dX5_imagine_62 rfl rfl hw.2.2 (by decide) (by omega) ?_
            refine ax_if_eq (tgt := 84) dX5_imagine_63 (by decide) (fun c_63 => ?_) (fun c_63 => ?_)
            · refine ax_sE (S' := imA S r (16 * r + s) (k + 1)) (im_A (r := r) (w := (16 * r + s)) (k := k) (fun z => c_26 ((im_r S r (16 * r + s) k).trans z.1)) (fun z => z.1 ((im_r S r (16 * r + s) k).symm.trans c_63))) ?_
              refine ax_iinc (v := _ + 1) (lv' := [(2, _), (0, _), (1, _)]) dX5_imagine_84 rfl rfl (by decide) rfl ?_
              refine ax_goto (tgt := 2) dX5_imagine_87 (by decide) ?_
              rw [nI_1]
              exact ax_loc rfl (ih (k + 1) (by omega))
            · refine ax_aload_n (i := 1) dX5_imagine_66 rfl rfl rfl ?_
              refine ax_getI dX5_imagine_67 fl_X5_113 rfl rfl rfl ?_
              refine ax_aload_n (i := 0) dX5_imagine_70 rfl rfl rfl ?_
              refine ax_getI dX5_imagine_71 fl_X5_48 rfl rfl rfl ?_
              refine ax_icmp_lt (tgt := 84) dX5_imagine_74 (by decide) (fun c_74 => ?_) (fun c_74 => ?_)
              · refine ax_sE (S' := imA S r (16 * r + s) (k + 1)) (im_A (r := r) (w := (16 * r + s)) (k := k) (fun z => c_26 ((im_r S r (16 * r + s) k).trans z.1)) (fun z => absurd c_74 (Int32.not_lt.mpr z.2))) ?_
                refine ax_iinc (v := _ + 1) (lv' := [(2, _), (0, _), (1, _)]) dX5_imagine_84 rfl rfl (by decide) rfl ?_
                refine ax_goto (tgt := 2) dX5_imagine_87 (by decide) ?_
                rw [nI_1]
                exact ax_loc rfl (ih (k + 1) (by omega))
              · refine ax_aload_n (i := 1) dX5_imagine_77 rfl rfl rfl ?_
                refine ax_getR dX5_imagine_78 fl_X5_106 rfl rfl rfl hw.2.1 ?_
                refine ax_iload_n (i := 2) dX5_imagine_81 rfl rfl ?_
                refine ax_iconst (v := 0) dX5_imagine_82 (by decide) ?_
                refine ax_zastN dX5_imagine_83 rfl rfl hw.2.2 (by decide) (by omega) rfl ?_
                refine ax_sE (S' := imA S r (16 * r + s) (k + 1)) (im_D (r := r) (w := (16 * r + s)) (k := k) (fun z => c_26 ((im_r S r (16 * r + s) k).trans z.1)) ⟨fun z => c_63 ((im_r S r (16 * r + s) k).trans z), Int32.not_lt.mp c_74⟩) ?_
                refine ax_iinc (v := _ + 1) (lv' := [(2, _), (0, _), (1, _)]) dX5_imagine_84 rfl rfl (by decide) rfl ?_
                refine ax_goto (tgt := 2) dX5_imagine_87 (by decide) ?_
                rw [nI_1]
                exact ax_loc rfl (ih (k + 1) (by omega))
          · refine ax_aload_n (i := 1) dX5_imagine_29 rfl rfl rfl ?_
            refine ax_getI dX5_imagine_30 fl_X5_110 rfl rfl rfl ?_
            refine ax_iload_n (i := 2) dX5_imagine_33 rfl rfl ?_
            refine ax_icmp_lt (tgt := 57) dX5_imagine_34 (by decide) (fun c_34 => ?_) (fun c_34 => ?_)
            · refine ax_aload_n (i := 1) dX5_imagine_57 rfl rfl rfl ?_
              refine ax_getR dX5_imagine_58 fl_X5_106 rfl rfl rfl hw.2.1 ?_
              refine ax_iload_n (i := 2) dX5_imagine_61 rfl rfl ?_
              refine ax_zaldN dX5_imagine_62 rfl rfl hw.2.2 (by decide) (by omega) ?_
              refine ax_if_eq (tgt := 84) dX5_imagine_63 (by decide) (fun c_63 => ?_) (fun c_63 => ?_)
              · refine ax_sE (S' := imA S r (16 * r + s) (k + 1)) (im_A (r := r) (w := (16 * r + s)) (k := k) (fun z => absurd c_34 (Int32.not_lt.mpr z.2)) (fun z => z.1 ((im_r S r (16 * r + s) k).symm.trans c_63))) ?_
                refine ax_iinc (v := _ + 1) (lv' := [(2, _), (0, _), (1, _)]) dX5_imagine_84 rfl rfl (by decide) rfl ?_
                refine ax_goto (tgt := 2) dX5_imagine_87 (by decide) ?_
                rw [nI_1]
                exact ax_loc rfl (ih (k + 1) (by omega))
              · refine ax_aload_n (i := 1) dX5_imagine_66 rfl rfl rfl ?_
                refine ax_getI dX5_imagine_67 fl_X5_113 rfl rfl rfl ?_
                refine ax_aload_n (i := 0) dX5_imagine_70 rfl rfl rfl ?_
                refine ax_getI dX5_imagine_71 fl_X5_48 rfl rfl rfl ?_
                refine ax_icmp_lt (tgt := 84) dX5_imagine_74 (by decide) (fun c_74 => ?_) (fun c_74 => ?_)
                · refine ax_sE (S' := imA S r (16 * r + s) (k + 1)) (im_A (r := r) (w := (16 * r + s)) (k := k) (fun z => absurd c_34 (Int32.not_lt.mpr z.2)) (fun z => absurd c_74 (Int32.not_lt.mpr z.2))) ?_
                  refine ax_iinc (v := _ + 1) (lv' := [(2, _), (0, _), (1, _)]) dX5_imagine_84 rfl rfl (by decide) rfl ?_
                  refine ax_goto (tgt := 2) dX5_imagine_87 (by decide) ?_
                  rw [nI_1]
                  exact ax_loc rfl (ih (k + 1) (by omega))
                · refine ax_aload_n (i := 1) dX5_imagine_77 rfl rfl rfl ?_
                  refine ax_getR dX5_imagine_78 fl_X5_106 rfl rfl rfl hw.2.1 ?_
                  refine ax_iload_n (i := 2) dX5_imagine_81 rfl rfl ?_
                  refine ax_iconst (v := 0) dX5_imagine_82 (by decide) ?_
                  refine ax_zastN dX5_imagine_83 rfl rfl hw.2.2 (by decide) (by omega) rfl ?_
                  refine ax_sE (S' := imA S r (16 * r + s) (k + 1)) (im_D (r := r) (w := (16 * r + s)) (k := k) (fun z => absurd c_34 (Int32.not_lt.mpr z.2)) ⟨fun z => c_63 ((im_r S r (16 * r + s) k).trans z), Int32.not_lt.mp c_74⟩) ?_
                  refine ax_iinc (v := _ + 1) (lv' := [(2, _), (0, _), (1, _)]) dX5_imagine_84 rfl rfl (by decide) rfl ?_
                  refine ax_goto (tgt := 2) dX5_imagine_87 (by decide) ?_
                  rw [nI_1]
                  exact ax_loc rfl (ih (k + 1) (by omega))
            · refine ax_aload_n (i := 1) dX5_imagine_37 rfl rfl rfl ?_
              refine ax_getR dX5_imagine_38 fl_X5_106 rfl rfl rfl hw.2.1 ?_
              refine ax_iload_n (i := 2) dX5_imagine_41 rfl rfl ?_
              refine ax_iconst (v := 1) dX5_imagine_42 (by decide) ?_
              refine ax_zastN dX5_imagine_43 rfl rfl hw.2.2 (by decide) (by omega) rfl ?_
              refine ax_aload_n (i := 0) dX5_imagine_44 rfl rfl rfl ?_
              refine ax_getR dX5_imagine_45 fl_X5_21 rfl rfl rfl hr.2.2.1 ?_
              refine ax_iload_n (i := 2) dX5_imagine_48 rfl rfl ?_
              refine ax_dup2 dX5_imagine_49 rfl rfl ?_
              refine ax_ialdN dX5_imagine_50 rfl rfl hr.2.2.2.2.2.2.1 (by decide) (by omega) ?_
              refine ax_iconst (v := 1) dX5_imagine_51 (by decide) ?_
              refine ax_iadd dX5_imagine_52 ?_
              refine ax_iastN dX5_imagine_53 rfl rfl hr.2.2.2.2.2.2.1 (by decide) (by omega) ?_
              refine ax_goto (tgt := 84) dX5_imagine_54 (by decide) ?_
              refine ax_sE (S' := imA S r (16 * r + s) (k + 1)) (im_B (r := r) (k := k) (⟨(im_r S r (16 * r + s) k).symm.trans (Classical.not_not.mp c_26), Int32.not_lt.mp c_34⟩ : imC S (16 * r + s) (k + 1))) ?_
              refine ax_iinc (v := _ + 1) (lv' := [(2, _), (0, _), (1, _)]) dX5_imagine_84 rfl rfl (by decide) rfl ?_
              refine ax_goto (tgt := 2) dX5_imagine_87 (by decide) ?_
              rw [nI_1]
              exact ax_loc rfl (ih (k + 1) (by omega))
  refine ax_iconst (v := nI 1) dX5_imagine_0 (by decide) ?_
  refine ax_istore_n (i := 2) (lv' := [(2, _), (0, _), (1, _)]) dX5_imagine_1 rfl (by decide) rfl ?_
  refine ax_sE (S' := imA S r (16 * r + s) 0) (im_0 S r (16 * r + s)).symm ?_
  exact ax_loc rfl (L 10 0 (by omega))
