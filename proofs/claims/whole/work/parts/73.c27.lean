/-- sources i and j are alike -/
def lkE (M : aM) (i j q : Nat) : Prop := q = 0 ∨ (q = 1 ∧ mA M 3 i = mA M 3 j) ∨ (q = 2 ∧ i = j)
def lsE (M : aM) (hr j q : Nat) : Prop := ∃ s, s < mN M 2 ∧ ¬ mA M 20 (16 * hr + s) < 0 ∧ lkE M s j q
def hdE (M : aM) (x : Nat) : Prop := ∃ hr, hr < mN M 6 ∧ ∃ q, q < 3 ∧ mHoldE M (mE M 31 x) hr q ∧ lsE M hr (mE M 32 x) q
theorem cR.held {τ : Nat → Nat → Nat} {S : awS} {M : aM} (R : cR τ S M) {x : Nat} (hx : x < mN M 30) : hdE M x ↔ mHeld M x := by
  have hxs := R.aSo hx
  have hS := R.nS
  have hRn := R.nR
  have hxr : mA M 31 x = nI (mE M 31 x) := (R.mI.A (k := 31) (n := 300) (b := 16) (by decide) (Nat.lt_of_lt_of_le hx R.nA)).1
  have hxs2 : mA M 32 x = nI (mE M 32 x) := (R.mI.A (k := 32) (n := 300) (b := 16) (by decide) (Nat.lt_of_lt_of_le hx R.nA)).1
  constructor
  · rintro ⟨hr, h1, q, h2, ⟨k, k1, k2, k3, k4⟩, s, s1, s2, s3⟩
    have hl := R.lasA (R.wat3 h1 (by omega)) s2
    have hy := hl.1
    have er : mE M 31 (mE M 20 (16 * hr + s)) = hr := by have := R.aSo hy; omega
    have es : mE M 32 (mE M 20 (16 * hr + s)) = s := by have := R.aSo hy; omega
    have hyr : mA M 31 (mE M 20 (16 * hr + s)) = nI hr := by rw [(R.mI.A (k := 31) (n := 300) (b := 16) (by decide) (Nat.lt_of_lt_of_le hy R.nA)).1, er]
    have hys : mA M 32 (mE M 20 (16 * hr + s)) = nI s := by rw [(R.mI.A (k := 32) (n := 300) (b := 16) (by decide) (Nat.lt_of_lt_of_le hy R.nA)).1, es]
    refine ⟨k, k1, k2.trans hxr.symm, mE M 20 (16 * hr + s), hy, hl.2.2, hyr.trans k3.symm, ?_⟩
    rw [es, k4, hys, hxs2]
    rcases s3 with e | ⟨e, e2⟩ | ⟨e, e2⟩
    · subst e; exact Or.inl rfl
    · subst e; exact Or.inr (Or.inl ⟨rfl, e2⟩)
    · subst e; subst e2; exact Or.inr (Or.inr ⟨by decide, by decide, rfl⟩)
  · rintro ⟨k, k1, k2, y, hy, y1, y2, y3⟩
    obtain ⟨i1, i2, q, q1, q2⟩ := R.inv.2.2.2.2.2.2.2.1 k k1
    have hyr : mA M 31 y = nI (mE M 31 y) := (R.mI.A (k := 31) (n := 300) (b := 16) (by decide) (Nat.lt_of_lt_of_le hy R.nA)).1
    have hys : mA M 32 y = nI (mE M 32 y) := (R.mI.A (k := 32) (n := 300) (b := 16) (by decide) (Nat.lt_of_lt_of_le hy R.nA)).1
    have hlast := (R.inv.2.2.1 y hy).2.2.2.2.1 y1
    have hso := R.aSo hy
    refine ⟨mE M 31 y, R.aRu hy, q, q1, ⟨k, k1, k2.trans hxr, y2.symm.trans hyr, q2⟩, mE M 32 y, hso, Int32.not_lt.mpr hlast.2, ?_⟩
    rw [q2, hys, hxs2] at y3
    rcases y3 with e | ⟨e, e2⟩ | ⟨e, e3, e2⟩
    · exact Or.inl ((nI_eq (b := 0) (by omega) (by decide)).mp e)
    · exact Or.inr (Or.inl ⟨(nI_eq (b := 1) (by omega) (by decide)).mp e, e2⟩)
    · have n0 : ¬ q = 0 := fun z => e (by rw [z]; rfl)
      have n1 : ¬ q = 1 := fun z => e3 (by rw [z]; rfl)
      exact Or.inr (Or.inr ⟨by omega, (nI_eq (by omega) (by omega)).mp e2⟩)

theorem cR.lkI {τ : Nat → Nat → Nat} {S : awS} {M : aM} (R : cR τ S M) {s j q : Nat} (hs : s < mN M 2) (hj : j < mN M 2) (hq : q < 3) : (nI q = 0 ∨ (nI q = 1 ∧ sI S 9 s 1 = sI S 9 j 1) ∨ (¬ nI q = 0 ∧ ¬ nI q = 1 ∧ sI S 9 s 0 = sI S 9 j 0)) ↔ lkE M s j q := by
  have hS := R.nS
  have e1 : (nI q = 0) ↔ q = 0 := nI_eq (b := 0) (by omega) (by decide)
  have e2 : (nI q = 1) ↔ q = 1 := nI_eq (b := 1) (by omega) (by decide)
  have e3 : (nI s = nI j) ↔ s = j := nI_eq (by omega) (by omega)
  rw [(R.int (f := 9) (k := 1) (m := 3) (q := 2) (by decide) hs), (R.int (f := 9) (k := 1) (m := 3) (q := 2) (by decide) hj), (R.src s hs).2.2.2.2, (R.src j hj).2.2.2.2, e1, e2, e3]
  unfold lkE
  constructor
  · rintro (h | h | h)
    · exact Or.inl h
    · exact Or.inr (Or.inl h)
    · exact Or.inr (Or.inr ⟨by omega, h.2.2⟩)
  · rintro (h | h | h)
    · exact Or.inl h
    · exact Or.inr (Or.inl h)
    · exact Or.inr (Or.inr ⟨by omega, by omega, h.2⟩)

set_option maxHeartbeats 400000 in
set_option maxRecDepth 100000 in
theorem c_lastsLike {E : awE} {S : awS} {M : aM} {τ : Nat → Nat → Nat} {Q : Option Value → awS → Nat → Nat → Prop} (R : cR τ S M) {r j q : Nat} (hr : r < mN M 6) (hj : j < mN M 2) (hq : q < 3) (h1 : lsE M r j q → Q (some (.int 1)) S 0 0) (h0 : ¬ lsE M r j q → Q (some (.int 0)) S 0 0) : awT true E m_X11_lastsLike [.ref (nm 12 0), .ref (nm 6 r), .ref (nm 9 j), .int (nI q)] S Q := by
  refine awT.of (by decide) (by decide) (Nat.le_of_ble_eq_true rfl) ?_
  have e_b := R.nS
  have L : ∀ (m s : Nat), s + m = (mN M 2) → (∀ i, i < s → ¬ (¬ mA M 20 (16 * r + i) < 0 ∧ lkE M i j q)) → awX true E m_X11_lastsLike 3 [(4, .int (nI s)), (0, .ref (nm 12 0)), (1, .ref (nm 6 r)), (2, .ref (nm 9 j)), (3, .int (nI q))] [] S 0 0 Q := by
    intro m
    induction m with
    | zero =>
      intro s hm1 hno
      refine ax_iload dX11_lastsLike_3 rfl ?_
      refine ax_aload_n (i := 0) dX11_lastsLike_5 rfl rfl rfl ?_
      refine ax_getR dX11_lastsLike_6 fl_X11_10 rfl rfl rfl (R.tow.1 0 (by decide)) ?_
      refine ax_invV (c := 0) (n := 0) (As := []) dX11_lastsLike_9 cb_Jx4a65c_size_8abf5 cv_X11_75.1 cv_X11_75.2.1 cv_X11_75.2.2 rfl (by decide) rfl ⟨Nat.le_of_ble_eq_true rfl, Nat.le_of_ble_eq_true rfl⟩ (Nat.le_of_ble_eq_true rfl) rfl (t_lsSize (q := 0) (by decide) (R.lq (by decide)) (R.lst.1) (Nat.lt_of_le_of_lt (mS_b R.mI (k := 2) (b := 16) (by decide)) (by decide)) ?_)
      refine ax_icmp_ge (tgt := 64) dX11_lastsLike_12 (by decide) (fun c_12 => ?_) (fun c_12 => ?_)
      · have hs2 : s = (mN M 2) := Nat.le_antisymm (by omega) (ge_of_c (b := (mN M 2)) rfl c_12 (by omega))
        refine ax_iconst (v := 0) dX11_lastsLike_64 (by decide) ?_
        refine ax_iret dX11_lastsLike_65 rfl rfl ?_
        exact h0 (fun z => z.elim (fun i w => hno i (by omega) w.2))
      · exact absurd (lt_of_c (b := (mN M 2)) rfl c_12 (by omega)) (by omega)
    | succ m ih =>
      intro s hm1 hno
      refine ax_iload dX11_lastsLike_3 rfl ?_
      refine ax_aload_n (i := 0) dX11_lastsLike_5 rfl rfl rfl ?_
      refine ax_getR dX11_lastsLike_6 fl_X11_10 rfl rfl rfl (R.tow.1 0 (by decide)) ?_
      refine ax_invV (c := 0) (n := 0) (As := []) dX11_lastsLike_9 cb_Jx4a65c_size_8abf5 cv_X11_75.1 cv_X11_75.2.1 cv_X11_75.2.2 rfl (by decide) rfl ⟨Nat.le_of_ble_eq_true rfl, Nat.le_of_ble_eq_true rfl⟩ (Nat.le_of_ble_eq_true rfl) rfl (t_lsSize (q := 0) (by decide) (R.lq (by decide)) (R.lst.1) (Nat.lt_of_le_of_lt (mS_b R.mI (k := 2) (b := 16) (by decide)) (by decide)) ?_)
      refine ax_icmp_ge (tgt := 64) dX11_lastsLike_12 (by decide) (fun c_12 => ?_) (fun c_12 => ?_)
      · exact absurd (ge_of_c (b := (mN M 2)) rfl c_12 (by omega)) (by omega)
      · have hs2 : s < (mN M 2) := lt_of_c (b := (mN M 2)) rfl c_12 (by omega)
        have hw := R.wat3 hr (show s < 16 by omega)
        refine ax_aload_n (i := 1) dX11_lastsLike_15 rfl rfl rfl ?_
        refine ax_iload dX11_lastsLike_16 rfl ?_
        refine ax_invV (c := 6) (n := 1) (As := [_]) dX11_lastsLike_18 cb_X5_watchAt cv_X11_191.1 cv_X11_191.2.1 cv_X11_191.2.2 rfl (by decide) rfl ⟨Nat.le_of_ble_eq_true rfl, Nat.le_of_ble_eq_true rfl⟩ (Nat.le_of_ble_eq_true rfl) rfl (c_watchAt (R.rul r hr) (by omega) ?_)
        refine ax_astore (lv' := [(5, _), (4, _), (0, _), (1, _), (2, _), (3, _)]) dX11_lastsLike_21 (by decide) rfl rfl ?_
        refine ax_aload dX11_lastsLike_23 rfl rfl ?_
        refine ax_ifnull_f (k0 := 58) dX11_lastsLike_25 (by decide) ?_
        refine ax_aload dX11_lastsLike_28 rfl rfl ?_
        refine ax_getQ dX11_lastsLike_30 fl_X11_219 rfl rfl rfl rfl ?_
        refine ax_ifnull (tgt := 58) dX11_lastsLike_33 (by decide) (fun c_33 => ?_) (fun n_33 c_33 => ?_)
        · refine ax_iinc (v := _ + 1) (lv' := [(4, _), (5, _), (0, _), (1, _), (2, _), (3, _)]) dX11_lastsLike_58 rfl rfl (by decide) rfl ?_
          refine ax_goto (tgt := 3) dX11_lastsLike_61 (by decide) ?_
          rw [nI_1]
          exact ax_loc rfl (ih (s + 1) (by omega) (lt_succ_c hno (fun z => z.1 (R.watJ hw c_33))))
        · refine ax_aload_n (i := 0) dX11_lastsLike_36 rfl rfl rfl ?_
          refine ax_getR dX11_lastsLike_37 fl_X11_10 rfl rfl rfl (R.tow.1 0 (by decide)) ?_
          refine ax_iload dX11_lastsLike_40 rfl ?_
          refine ax_invV (c := 0) (n := 1) (As := [_]) dX11_lastsLike_42 cb_Jx4a65c_get_915e3 cv_X11_115.1 cv_X11_115.2.1 cv_X11_115.2.2 rfl (by decide) rfl ⟨Nat.le_of_ble_eq_true rfl, Nat.le_of_ble_eq_true rfl⟩ (Nat.le_of_ble_eq_true rfl) rfl (t_lsGet (q := 0) (by decide) (R.lq (by decide)) (R.lst.1) (Nat.lt_of_le_of_lt (mS_b R.mI (k := 2) (b := 16) (by decide)) (by decide)) (by omega) ?_)
          refine ax_cast (c := 9) dX11_lastsLike_45 kl_X11_79 rfl (by decide) ?_
          refine ax_aload_n (i := 2) dX11_lastsLike_48 rfl rfl rfl ?_
          refine ax_iload_n (i := 3) dX11_lastsLike_49 rfl rfl ?_
          refine ax_invS (n := 3) (As := [_, _, _]) dX11_lastsLike_50 cb_X11_isLike cs_X11_303.1 cs_X11_303.2 rfl ⟨Nat.le_of_ble_eq_true rfl, Nat.le_of_ble_eq_true rfl⟩ (Nat.le_of_ble_eq_true rfl) rfl (c_isLike (fun c_50 => ?_) (fun c_50 => ?_))
          · refine ax_if_eq (tgt := 58) dX11_lastsLike_53 (by decide) (fun z => absurd z (by decide)) (fun _ => ?_)
            refine ax_iconst (v := 1) dX11_lastsLike_56 (by decide) ?_
            refine ax_iret dX11_lastsLike_57 rfl rfl ?_
            exact h1 ⟨s, hs2, R.watI hw c_33, (R.lkI hs2 hj hq).mp c_50⟩
          · refine ax_if_eq (tgt := 58) dX11_lastsLike_53 (by decide) (fun _ => ?_) (fun z => absurd (by decide) z)
            refine ax_iinc (v := _ + 1) (lv' := [(4, _), (5, _), (0, _), (1, _), (2, _), (3, _)]) dX11_lastsLike_58 rfl rfl (by decide) rfl ?_
            refine ax_goto (tgt := 3) dX11_lastsLike_61 (by decide) ?_
            rw [nI_1]
            exact ax_loc rfl (ih (s + 1) (by omega) (lt_succ_c hno (fun z => c_50 ((R.lkI hs2 hj hq).mpr z.2))))
  refine ax_iconst (v := nI 0) dX11_lastsLike_0 (by decide) ?_
  refine ax_istore (lv' := [(4, _), (0, _), (1, _), (2, _), (3, _)]) dX11_lastsLike_1 (by decide) rfl ?_
  exact ax_loc rfl (L (mN M 2) 0 (by omega) (fun j hj => absurd hj (Nat.not_lt_zero j)))
