theorem noX_id {S : awS} {r w : Nat} (h0 : sI S 11 w 0 = -1) (h2 : sI S 11 w 2 = 0) (h3 : sI S 11 w 3 = 0) (h5 : 1 ≤ sI S 6 r 5) : noX S r w (-1) = S := by
  have e0 : noN S w (-1) = S := by
    rw [← no_m, ← h0]
    refine Prod.ext ?_ rfl
    funext f i j
    show (if f = 11 ∧ i = w ∧ j = 0 then sI S 11 w 0 else S.1 f i j) = S.1 f i j
    by_cases c : f = 11 ∧ i = w ∧ j = 0
    · rw [if_pos c, c.1, c.2.1, c.2.2]; rfl
    · rw [if_neg c]
  unfold noX
  rw [e0]
  have st : ∀ k, k ≤ 10 → imA S r w k = S := by
    intro k
    induction k with
    | zero => exact fun _ => im_0 S r w
    | succ k ih =>
      intro hk
      rw [← im_A (fun z => by
        have q := z.2
        rw [h2] at q
        exact absurd q (Int32.not_le.mpr (nI_lt (a := 0) (Nat.succ_pos k) (by omega)))) (fun z => by
        have q := z.2
        rw [h3] at q
        exact absurd (Int32.le_trans h5 q) (by decide))]
      exact ih (by omega)
  exact st 10 (Nat.le_refl 10)
theorem site_iff {S : awS} {M : aM} {τ : Nat → Nat → Nat} (R : cR τ S M) {r s : Nat} (hr : r < mN M 6) (hs : s < mN M 2) : (sI S 6 r 8 = -1 ∨ sI S 6 r 8 = sI S 9 s 1) ↔ ¬ (0 ≤ mA M 14 r ∧ ¬ mA M 14 r = mA M 3 s) := by
  rw [R.int (f := 6) (k := 8) (m := 14) (q := 6) (by decide) hr, R.int (f := 9) (k := 1) (m := 3) (q := 2) (by decide) hs]
  have q := (R.inv.2.2.2.2.2.2.1 r hr).2.2.2.1
  have e := m1_lt q
  constructor
  · rintro (z | z) ⟨z1, z2⟩
    · exact absurd (e.mpr z) (Int32.not_lt.mpr z1)
    · exact z2 z
  · intro z
    by_cases c : mA M 14 r < 0
    · exact Or.inl (e.mp c)
    · exact Or.inr (Classical.byContradiction fun w => z ⟨Int32.not_lt.mp c, w⟩)
/-- no look: the truth is neither -/
theorem look_no {S : awS} {M : aM} {τ : Nat → Nat → Nat} (R : cR τ S M) {r s T : Nat} (hr : r < mN M 6) (hs : s < mN M 2) (hτ : τ r s = T) (hb : ∀ r s, τ r s ≤ 400) (hT : T + 1 ≤ 400) (hC : mN M 1 = T) (hm : 0 ≤ mA M 14 r ∧ ¬ mA M 14 r = mA M 3 s) : cR (tU τ r s (T + 1)) S (mJudge M r s (T + 1)) ∧ zz (mJudge M r s (T + 1)) = zz M := by
  have hs16 : s < 16 := Nat.lt_of_lt_of_le hs R.nS
  have hr16 : r < 16 := Nat.lt_of_lt_of_le hr R.nR
  have hw := R.wat3 hr hs16
  have q := R.inv.2.1 r s (Or.inr (Or.inr hm)) hs16 hr16
  have ev : (mFound M r s (T + 1)) = -1 := if_pos hm
  have R2 := R.note hr hs hτ hT hC hb (v := -1) (Or.inl rfl) (fun _ => rfl)
  rw [noX_id (by rw [R.tru r s hr hs16]; unfold mTru; rw [q.1 _ (by have := hb r s; omega)]; decide) ((R.int (f := 11) (k := 2) (m := 18) (q := 100) (by decide) hw).trans q.2.1) ((R.int (f := 11) (k := 3) (m := 19) (q := 100) (by decide) hw).trans q.2.2.1) (by rw [R.int (f := 6) (k := 5) (m := 12) (q := 6) (by decide) hr]; exact (R.inv.2.2.2.2.2.2.1 r hr).2.1)] at R2
  have eJ : mJudge M r s (T + 1) = mNote M (16 * r + s) (T + 1) (-1) := by
    rw [mJ_e ev rfl]
    refine mTurn_0 ?_ (fun z => ?_)
    · rw [mNote_o (Or.inl rfl) (by decide)]; exact q.2.2.2.2
    · have z1 := z.1
      rw [mNote_o (Or.inl rfl) (by decide), noM_e (Or.inl rfl), nm_x.2.1, q.2.1] at z1
      exact absurd (Int32.le_trans (R.inv.2.2.2.2.2.2.1 r hr).1 z1) (by decide)
  rw [eJ]
  exact ⟨R2, zz_S (mNote_S M _ _ _)⟩

set_option maxHeartbeats 1000000 in
set_option maxRecDepth 100000 in
theorem lookAt_50 {E : awE} {S : awS} {M : aM} {τ : Nat → Nat → Nat} {Q : Option Value → awS → Nat → Nat → Prop} (R : cR τ S M) {r s T : Nat} (hr : r < mN M 6) (hs : s < mN M 2) (hτ : τ r s = T) (hb : ∀ r s, τ r s ≤ 400) (hT : T + 1 ≤ 400) (hC : mN M 1 = T) (hsite : ¬ (0 ≤ mA M 14 r ∧ ¬ mA M 14 r = mA M 3 s)) (h : ∀ S1 kc ks, cR (tU τ r s (T + 1)) S1 (mJudge M r s (T + 1)) → cFm S S1 → kc + 4 * zz M ≤ 4 * zz (mJudge M r s (T + 1)) → ks + 1300 * zz M ≤ 1300 * zz (mJudge M r s (T + 1)) → Q none S1 kc ks) : awX true E m_X11_lookAt 50 [(4, .ref (nm 11 (16 * r + s))), (0, .ref (nm 12 0)), (1, .ref (nm 6 r)), (2, .ref (nm 9 s)), (3, .int (nI (T + 1)))] [.int (mFound M r s (T + 1))] S 0 0 Q := by
  have hs16 : s < 16 := Nat.lt_of_lt_of_le hs R.nS
  refine ax_istore (lv' := [(5, _), (4, _), (0, _), (1, _), (2, _), (3, _)]) dX11_lookAt_50 (by decide) rfl ?_
  refine ax_aload dX11_lookAt_52 rfl rfl ?_
  refine ax_iload dX11_lookAt_54 rfl ?_
  refine ax_invV (c := 11) (n := 1) (As := [_]) dX11_lookAt_56 cb_X10_note cv_X11_210.1 cv_X11_210.2.1 cv_X11_210.2.2 rfl (by decide) rfl ⟨Nat.le_of_ble_eq_true rfl, Nat.le_of_ble_eq_true rfl⟩ (Nat.le_of_ble_eq_true rfl) rfl (c_note2 (found_v M r s (T + 1)) ?_)
  refine ax_aload_n (i := 1) dX11_lookAt_59 rfl rfl rfl ?_
  refine ax_aload dX11_lookAt_60 rfl rfl ?_
  refine ax_invV (c := 6) (n := 1) (As := [_]) dX11_lookAt_62 cb_X5_imagine cv_X11_215.1 cv_X11_215.2.1 cv_X11_215.2.2 rfl (by decide) rfl ⟨Nat.le_of_ble_eq_true rfl, Nat.le_of_ble_eq_true rfl⟩ (Nat.le_of_ble_eq_true rfl) rfl (c_imagine (R.rul r hr) ((R.rul r hr).2.2.2.2.2.2.2.2.2 s hs16) ?_)
  refine ax_sE (S' := (noX S r (16 * r + s) (mFound M r s (T + 1)))) rfl ?_
  have hv := found_v M r s (T + 1)
  have R2 := R.note hr hs hτ hT hC hb hv (fun z => absurd z hsite)
  have eS := mNote_S M (16 * r + s) (T + 1) (mFound M r s (T + 1))
  have eN : ∀ k, mN (mNote M (16 * r + s) (T + 1) (mFound M r s (T + 1))) k = mN M k := fun k => congrArg Int32.toNatClampNeg (eS k)
  have eJ : mJudge M r s (T + 1) = mTurn (mNote M (16 * r + s) (T + 1) (mFound M r s (T + 1))) r s (T + 1) := rfl
  refine ax_loc rfl (lookAt_65 R2 (by rw [eN]; exact hr) (by rw [eN]; exact hs) hT (by rw [mNote_o hv (by decide), mNote_o hv (by decide)]; exact hsite) (fun S1 kc ks N1 R1 f1 e1 z1 z2 => ?_))
  rw [zz_S eS] at z1 z2
  rw [eJ, e1] at h
  exact h S1 kc ks R1 (cFm.nx.tr f1) z1 z2
set_option maxHeartbeats 400000 in
set_option maxRecDepth 100000 in
theorem c_lookAt {E : awE} {S : awS} {M : aM} {τ : Nat → Nat → Nat} {Q : Option Value → awS → Nat → Nat → Prop} (R : cR τ S M) {r s T : Nat} (hr : r < mN M 6) (hs : s < mN M 2) (hτ : τ r s = T) (hb : ∀ r s, τ r s ≤ 400) (hT : T + 1 ≤ 400) (hC : mN M 1 = T) (hlow : ∀ q, q < r → τ q s = T + 1) (h : ∀ S1 kc ks, cR (tU τ r s (T + 1)) S1 (mJudge M r s (T + 1)) → cFm S S1 → kc + 4 * zz M ≤ 4 * zz (mJudge M r s (T + 1)) → ks + 1300 * zz M ≤ 1300 * zz (mJudge M r s (T + 1)) → Q none S1 kc ks) : awT true E m_X11_lookAt [.ref (nm 12 0), .ref (nm 6 r), .ref (nm 9 s), .int (nI (T + 1))] S Q := by
  refine awT.of (by decide) (by decide) (Nat.le_of_ble_eq_true rfl) ?_
  have hs16 : s < 16 := Nat.lt_of_lt_of_le hs R.nS
  refine ax_aload_n (i := 1) dX11_lookAt_0 rfl rfl rfl ?_
  refine ax_aload_n (i := 2) dX11_lookAt_1 rfl rfl rfl ?_
  refine ax_getI dX11_lookAt_2 fl_X11_190 rfl rfl rfl ?_
  refine ax_top (R.src s hs).2.2.2.2 ?_
  refine ax_invV (c := 6) (n := 1) (As := [_]) dX11_lookAt_5 cb_X5_watchAt cv_X11_191.1 cv_X11_191.2.1 cv_X11_191.2.2 rfl (by decide) rfl ⟨Nat.le_of_ble_eq_true rfl, Nat.le_of_ble_eq_true rfl⟩ (Nat.le_of_ble_eq_true rfl) rfl (c_watchAt (R.rul r hr) hs16 ?_)
  refine ax_astore (lv' := [(4, _), (0, _), (1, _), (2, _), (3, _)]) dX11_lookAt_8 (by decide) rfl rfl ?_
  refine ax_aload dX11_lookAt_10 rfl rfl ?_
  refine ax_ifnull_f (k0 := 23) dX11_lookAt_12 (by decide) ?_
  refine ax_aload_n (i := 1) dX11_lookAt_15 rfl rfl rfl ?_
  refine ax_aload_n (i := 2) dX11_lookAt_16 rfl rfl rfl ?_
  refine ax_invV (c := 6) (n := 1) (As := [_]) dX11_lookAt_17 cb_X5_looksAt cv_X11_195.1 cv_X11_195.2.1 cv_X11_195.2.2 rfl (by decide) rfl ⟨Nat.le_of_ble_eq_true rfl, Nat.le_of_ble_eq_true rfl⟩ (Nat.le_of_ble_eq_true rfl) rfl (c_looksAt (fun c_17 => ?_) (fun c_17 => ?_))
  · refine ax_if_ne (tgt := 24) dX11_lookAt_20 (by decide) (fun _ => ?_) (fun z => absurd (by decide) z)
    have hsite := (site_iff R hr hs).mp c_17
    have ek : sI S 6 r 1 = mA M 7 r := R.int (f := 6) (k := 1) (m := 7) (q := 6) (by decide) hr
    refine ax_aload_n (i := 1) dX11_lookAt_24 rfl rfl rfl ?_
    refine ax_getI dX11_lookAt_25 fl_X11_199 rfl rfl rfl ?_
    refine ax_bipush (v := 6) dX11_lookAt_28 (by decide) ?_
    refine ax_icmp_ne (tgt := 42) dX11_lookAt_30 (by decide) (fun c_30 => ?_) (fun c_30 => ?_)
    · refine ax_aload_n (i := 1) dX11_lookAt_42 rfl rfl rfl ?_
      refine ax_aload_n (i := 2) dX11_lookAt_43 rfl rfl rfl ?_
      refine ax_aload dX11_lookAt_44 rfl rfl ?_
      refine ax_iload_n (i := 3) dX11_lookAt_46 rfl rfl ?_
      refine ax_invV (c := 6) (n := 3) (As := [_, _, _]) dX11_lookAt_47 cb_X5_truthOf cv_X11_206.1 cv_X11_206.2.1 cv_X11_206.2.2 rfl (by decide) rfl ⟨Nat.le_of_ble_eq_true rfl, Nat.le_of_ble_eq_true rfl⟩ (Nat.le_of_ble_eq_true rfl) rfl (c_truthOf R hr hs (by omega) hsite (fun z => c_30 (ek.trans z)) (fun S1 R1 f1 => ?_))
      exact ax_loc rfl (lookAt_50 R1 hr hs hτ hb hT hC hsite (fun S2 kc ks R2 f2 z1 z2 => h S2 kc ks R2 (f1.tr f2) z1 z2))
    · refine ax_aload_n (i := 0) dX11_lookAt_33 rfl rfl rfl ?_
      refine ax_aload_n (i := 1) dX11_lookAt_34 rfl rfl rfl ?_
      refine ax_aload_n (i := 2) dX11_lookAt_35 rfl rfl rfl ?_
      refine ax_invV (c := 12) (n := 2) (As := [_, _]) dX11_lookAt_36 cb_X11_truthOfBoth cv_X11_202.1 cv_X11_202.2.1 cv_X11_202.2.2 rfl (by decide) rfl ⟨Nat.le_of_ble_eq_true rfl, Nat.le_of_ble_eq_true rfl⟩ (Nat.le_of_ble_eq_true rfl) rfl (c_truthOfBoth R hr hs hlow hsite (ek.symm.trans (Classical.not_not.mp c_30)) ?_)
      refine ax_goto (tgt := 50) dX11_lookAt_39 (by decide) ?_
      exact ax_loc rfl (lookAt_50 R hr hs hτ hb hT hC hsite h)
  · refine ax_if_ne (tgt := 24) dX11_lookAt_20 (by decide) (fun z => absurd z (by decide)) (fun _ => ?_)
    refine ax_vret dX11_lookAt_23 rfl ?_
    have hm := Classical.not_not.mp (fun z => c_17 ((site_iff R hr hs).mpr z))
    have q := look_no R hr hs hτ hb hT hC hm
    exact h S 0 0 q.1 cFm.rf (by rw [q.2, Nat.zero_add]; exact Nat.le_refl _) (by rw [q.2, Nat.zero_add]; exact Nat.le_refl _)
