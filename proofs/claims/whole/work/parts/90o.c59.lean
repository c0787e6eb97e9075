set_option maxHeartbeats 400000 in
set_option maxRecDepth 100000 in
theorem c_groupOf {E : awE} {S : awS} {M : aM} {τ : Nat → Nat → Nat} {Q : Option Value → awS → Nat → Nat → Prop} (R : cR τ S M) {r s : Nat} (hr : r < mN M 6) (hs : s < mN M 2) (h1 : ∀ k, k < (mN M 48) → mGrpI M r s = k → Q (some (.ref (nm 3 k))) (wNew S 1 0) 0 0) (h0 : mGrpI M r s = (mN M 48) → ∀ kc ks, kc ≤ 2 → ks ≤ 2 * (mN M 48) + 19 → Q (some (.ref (nm 3 (mN M 48)))) (wK (wR (wR (wI (wI (wI (wI (wI (wNew (wNew S 1 0) 3 0) 3 (mN M 48) 2 0) 3 (mN M 48) 3 0) 3 (mN M 48) 4 0) 3 (mN M 48) 5 0) 3 (mN M 48) 6 0) 3 (mN M 48) 0 (some (nm 6 r))) 3 (mN M 48) 1 (some (nm 9 s))) 4 ((mN M 48) + 1, elU (nm 3) (mN M 48) (nm 3 (mN M 48)))) kc ks) : awT true E m_X11_groupOf [.ref (nm 12 0), .ref (nm 6 r), .ref (nm 9 s)] (wNew S 1 0) Q := by
  refine awT.of (by decide) (by decide) (Nat.le_of_ble_eq_true rfl) ?_
  have e_b := R.nG
  have L : ∀ (m k : Nat), k + m = (mN M 48) → (∀ j, j < k → ¬ mSame M r s j) → awX true E m_X11_groupOf 2 [(3, .int (nI k)), (0, .ref (nm 12 0)), (1, .ref (nm 6 r)), (2, .ref (nm 9 s))] [] (wNew S 1 0) 0 0 Q := by
    intro m
    induction m with
    | zero =>
      intro k hm1 hno
      refine ax_iload_n (i := 3) dX11_groupOf_2 rfl rfl ?_
      refine ax_aload_n (i := 0) dX11_groupOf_3 rfl rfl rfl ?_
      refine ax_getR dX11_groupOf_4 fl_X11_25 rfl rfl rfl (R.tow.1 4 (by decide)) ?_
      refine ax_invV (c := 0) (n := 0) (As := []) dX11_groupOf_7 cb_Jx4a65c_size_8abf5 cv_X11_75.1 cv_X11_75.2.1 cv_X11_75.2.2 rfl (by decide) rfl ⟨Nat.le_of_ble_eq_true rfl, Nat.le_of_ble_eq_true rfl⟩ (Nat.le_of_ble_eq_true rfl) rfl (t_lsSize (q := 4) (by decide) (R.lq (by decide)) (R.lst.2.2.2.2.1) (Nat.lt_of_le_of_lt (mS_b R.mI (k := 48) (b := 300) (by decide)) (by decide)) ?_)
      refine ax_icmp_ge (tgt := 54) dX11_groupOf_10 (by decide) (fun c_10 => ?_) (fun c_10 => ?_)
      · have hk2 : k = (mN M 48) := Nat.le_antisymm (by omega) (ge_of_c (b := (mN M 48)) rfl c_10 (by omega))
        refine ax_new (f := 3) dX11_groupOf_54 nw_X11_264 rfl rfl ?_
        rw [show sC (wNew S 1 0) 3 = (mN M 48) from R.cx.2.2.2.2.2.2.2.2.2.2.2.2.1.trans (Nat.one_mul _)]
        refine ax_dup dX11_groupOf_57 rfl ?_
        refine ax_aload_n (i := 1) dX11_groupOf_58 rfl rfl rfl ?_
        refine ax_aload_n (i := 2) dX11_groupOf_59 rfl rfl rfl ?_
        refine ax_invI (n := 2) (As := [_, _]) dX11_groupOf_60 cb_X2_init ci_X11_270.1 ci_X11_270.2 rfl rfl rfl ⟨Nat.le_of_ble_eq_true rfl, Nat.le_of_ble_eq_true rfl⟩ (Nat.le_of_ble_eq_true rfl) rfl (c_iGrp ?_)
        refine ax_astore_n (i := 3) (lv' := [(3, _), (0, _), (1, _), (2, _)]) dX11_groupOf_63 rfl (by decide) rfl rfl ?_
        refine ax_aload_n (i := 0) dX11_groupOf_64 rfl rfl rfl ?_
        refine ax_getR dX11_groupOf_65 fl_X11_25 rfl rfl rfl (R.tow.1 4 (by decide)) ?_
        refine ax_aload_n (i := 3) dX11_groupOf_68 rfl rfl rfl ?_
        refine ax_invV (c := 0) (n := 1) (As := [_]) dX11_groupOf_69 cb_Jx4a65c_add_9ea2d cv_X11_84.1 cv_X11_84.2.1 cv_X11_84.2.2 rfl (by decide) rfl ⟨Nat.le_of_ble_eq_true rfl, Nat.le_of_ble_eq_true rfl⟩ (Nat.le_of_ble_eq_true rfl) rfl (t_lsAdd (q := 4) (by decide) (R.lq (by decide)) (R.lst.2.2.2.2.1) (Nat.lt_of_le_of_lt (mS_b R.mI (k := 48) (b := 300) (by decide)) (by decide)) (by decide) (by decide) ?_)
        refine ax_pop dX11_groupOf_72 rfl ?_
        refine ax_aload_n (i := 3) dX11_groupOf_73 rfl rfl rfl ?_
        refine ax_aret (r := some _) dX11_groupOf_74 rfl (Or.inl ⟨_, rfl⟩) ?_
        exact h0 (mFst_none (fun j hj => hno j (by omega))) _ _ (by omega) (by have e : (oCl 3).2.2 = 7 := rfl; omega)
      · exact absurd (lt_of_c (b := (mN M 48)) rfl c_10 (by omega)) (by omega)
    | succ m ih =>
      intro k hm1 hno
      refine ax_iload_n (i := 3) dX11_groupOf_2 rfl rfl ?_
      refine ax_aload_n (i := 0) dX11_groupOf_3 rfl rfl rfl ?_
      refine ax_getR dX11_groupOf_4 fl_X11_25 rfl rfl rfl (R.tow.1 4 (by decide)) ?_
      refine ax_invV (c := 0) (n := 0) (As := []) dX11_groupOf_7 cb_Jx4a65c_size_8abf5 cv_X11_75.1 cv_X11_75.2.1 cv_X11_75.2.2 rfl (by decide) rfl ⟨Nat.le_of_ble_eq_true rfl, Nat.le_of_ble_eq_true rfl⟩ (Nat.le_of_ble_eq_true rfl) rfl (t_lsSize (q := 4) (by decide) (R.lq (by decide)) (R.lst.2.2.2.2.1) (Nat.lt_of_le_of_lt (mS_b R.mI (k := 48) (b := 300) (by decide)) (by decide)) ?_)
      refine ax_icmp_ge (tgt := 54) dX11_groupOf_10 (by decide) (fun c_10 => ?_) (fun c_10 => ?_)
      · exact absurd (ge_of_c (b := (mN M 48)) rfl c_10 (by omega)) (by omega)
      · have hk2 : k < (mN M 48) := lt_of_c (b := (mN M 48)) rfl c_10 (by omega)
        refine ax_aload_n (i := 0) dX11_groupOf_13 rfl rfl rfl ?_
        refine ax_getR dX11_groupOf_14 fl_X11_25 rfl rfl rfl (R.tow.1 4 (by decide)) ?_
        refine ax_iload_n (i := 3) dX11_groupOf_17 rfl rfl ?_
        refine ax_invV (c := 0) (n := 1) (As := [_]) dX11_groupOf_18 cb_Jx4a65c_get_915e3 cv_X11_115.1 cv_X11_115.2.1 cv_X11_115.2.2 rfl (by decide) rfl ⟨Nat.le_of_ble_eq_true rfl, Nat.le_of_ble_eq_true rfl⟩ (Nat.le_of_ble_eq_true rfl) rfl (t_lsGet (q := 4) (by decide) (R.lq (by decide)) (R.lst.2.2.2.2.1) (Nat.lt_of_le_of_lt (mS_b R.mI (k := 48) (b := 300) (by decide)) (by decide)) (by omega) ?_)
        refine ax_cast (c := 3) dX11_groupOf_21 kl_X11_264 rfl (by decide) ?_
        refine ax_aload_n (i := 1) dX11_groupOf_24 rfl rfl rfl ?_
        refine ax_aload_n (i := 2) dX11_groupOf_25 rfl rfl rfl ?_
        refine ax_aload_n (i := 0) dX11_groupOf_26 rfl rfl rfl ?_
        refine ax_getI dX11_groupOf_27 fl_X11_52 rfl rfl rfl ?_
        refine ax_top R.sca.2.1 ?_
        refine ax_invV (c := 3) (n := 3) (As := [_, _, _]) dX11_groupOf_30 cb_X2_isAlike cv_X11_266.1 cv_X11_266.2.1 cv_X11_266.2.2 rfl (by decide) rfl ⟨Nat.le_of_ble_eq_true rfl, Nat.le_of_ble_eq_true rfl⟩ (Nat.le_of_ble_eq_true rfl) rfl (c_isAlike (R.ref.2.1 k hk2).1 (R.ref.2.1 k hk2).2 (fun c_30 => ?_) (fun c_30 => ?_))
        · refine ax_if_eq (tgt := 48) dX11_groupOf_33 (by decide) (fun z => absurd z (by decide)) (fun _ => ?_)
          refine ax_aload_n (i := 0) dX11_groupOf_36 rfl rfl rfl ?_
          refine ax_getR dX11_groupOf_37 fl_X11_25 rfl rfl rfl (R.tow.1 4 (by decide)) ?_
          refine ax_iload_n (i := 3) dX11_groupOf_40 rfl rfl ?_
          refine ax_invV (c := 0) (n := 1) (As := [_]) dX11_groupOf_41 cb_Jx4a65c_get_915e3 cv_X11_115.1 cv_X11_115.2.1 cv_X11_115.2.2 rfl (by decide) rfl ⟨Nat.le_of_ble_eq_true rfl, Nat.le_of_ble_eq_true rfl⟩ (Nat.le_of_ble_eq_true rfl) rfl (t_lsGet (q := 4) (by decide) (R.lq (by decide)) (R.lst.2.2.2.2.1) (Nat.lt_of_le_of_lt (mS_b R.mI (k := 48) (b := 300) (by decide)) (by decide)) (by omega) ?_)
          refine ax_cast (c := 3) dX11_groupOf_44 kl_X11_264 rfl (by decide) ?_
          refine ax_aret (r := some _) dX11_groupOf_47 rfl (Or.inl ⟨_, rfl⟩) ?_
          exact h1 k hk2 (mFst_at hk2 ((R.same hk2 hr hs).mp c_30) hno)
        · refine ax_if_eq (tgt := 48) dX11_groupOf_33 (by decide) (fun _ => ?_) (fun z => absurd (by decide) z)
          refine ax_iinc (v := _ + 1) (lv' := [(3, _), (0, _), (1, _), (2, _)]) dX11_groupOf_48 rfl rfl (by decide) rfl ?_
          refine ax_goto (tgt := 2) dX11_groupOf_51 (by decide) ?_
          rw [nI_1]
          exact ax_loc rfl (ih (k + 1) (by omega) (fun j hj => (Nat.lt_or_eq_of_le (Nat.le_of_lt_succ hj)).elim (hno j) (fun e => by rw [e]; exact fun z => c_30 ((R.same hk2 hr hs).mpr z))))
  refine ax_iconst (v := nI 0) dX11_groupOf_0 (by decide) ?_
  refine ax_istore_n (i := 3) (lv' := [(3, _), (0, _), (1, _), (2, _)]) dX11_groupOf_1 rfl (by decide) rfl ?_
  exact ax_loc rfl (L (mN M 48) 0 (by omega) (fun j hj => absurd hj (Nat.not_lt_zero j)))
set_option maxHeartbeats 2000000 in
theorem bg_ef {S : awS} {a r s g w : Nat} {t : Int32} (h1 : sC S 1 = a) : wK (wR (wI (wR (wR (wR (wI (wI (wI (wI (wI (wI (wI (wI (wI (wNew S 1 0) 1 a 5 0) 1 a 6 0) 1 a 7 0) 1 a 8 0) 1 a 9 0) 1 a 10 0) 1 a 11 0) 1 a 12 0) 1 a 0 (nI a)) 1 a 1 (some (nm 6 r))) 1 a 2 (some (nm 9 s))) 1 a 3 (some (nm 3 g))) 1 a 4 t) 11 w 4 (some (nm 1 a))) 3 (a + 1, elU (nm 1) a (nm 1 a)) = bgS S a r s g w t false := by
  unfold bgS wK wI wR wNew u3 sC
  unfold sC at *
  refine Prod.ext ?_ (Prod.ext ?_ (Prod.ext ?_ (Prod.ext ?_ (Prod.ext ?_ ?_))))
  · funext f i j
    dsimp only
    by_cases c : f = 1 ∧ i = a
    · obtain ⟨rfl, rfl⟩ := c
      simp [h1]
      grind
    · have c0 : ¬ (f = 1 ∧ i = S.2.2.2.1 1) := by rw [h1]; exact c
      have cc : ∀ n, ¬ (f = 1 ∧ i = a ∧ j = n) := fun n z => c ⟨z.1, z.2.1⟩
      simp [c, cc, c0]
      (try grind)
  · funext f i j
    dsimp only
    simp [h1]
    (try grind)
  · funext f i j
    dsimp only
    by_cases c : f = 1 ∧ i = a
    · obtain ⟨rfl, rfl⟩ := c
      simp [h1]
      grind
    · have c0 : ¬ (f = 1 ∧ i = S.2.2.2.1 1) := by rw [h1]; exact c
      have cc : ∀ n, ¬ (f = 1 ∧ i = a ∧ j = n) := fun n z => c ⟨z.1, z.2.1⟩
      simp [c, cc, c0]
      grind
  · funext f
    dsimp only
    simp [h1]
    (try grind)
  · funext f i
    dsimp only
    simp [h1]
    (try grind)
  · funext f
    dsimp only
    simp
    (try grind)

set_option maxHeartbeats 2000000 in
theorem bg_et {S : awS} {a r s g w : Nat} {t : Int32} (h1 : sC S 1 = a) (h3 : sC S 3 = g) : wK (wR (wI (wR (wR (wR (wI (wI (wI (wI (wI (wI (wI (wI (wI (wK (wR (wR (wI (wI (wI (wI (wI (wNew (wNew S 1 0) 3 0) 3 g 2 0) 3 g 3 0) 3 g 4 0) 3 g 5 0) 3 g 6 0) 3 g 0 (some (nm 6 r))) 3 g 1 (some (nm 9 s))) 4 (g + 1, elU (nm 3) g (nm 3 g))) 1 a 5 0) 1 a 6 0) 1 a 7 0) 1 a 8 0) 1 a 9 0) 1 a 10 0) 1 a 11 0) 1 a 12 0) 1 a 0 (nI a)) 1 a 1 (some (nm 6 r))) 1 a 2 (some (nm 9 s))) 1 a 3 (some (nm 3 g))) 1 a 4 t) 11 w 4 (some (nm 1 a))) 3 (a + 1, elU (nm 1) a (nm 1 a)) = bgS S a r s g w t true := by
  unfold bgS wK wI wR wNew u3 sC
  unfold sC at *
  refine Prod.ext ?_ (Prod.ext ?_ (Prod.ext ?_ (Prod.ext ?_ (Prod.ext ?_ ?_))))
  · funext f i j
    dsimp only
    by_cases c : f = 1 ∧ i = a
    · obtain ⟨rfl, rfl⟩ := c
      simp [h1]
      grind
    · have c0 : ¬ (f = 1 ∧ i = S.2.2.2.1 1) := by rw [h1]; exact c
      have cc : ∀ n, ¬ (f = 1 ∧ i = a ∧ j = n) := fun n z => c ⟨z.1, z.2.1⟩
      simp [c, cc, c0, h3]
      (try grind)
  · funext f i j
    dsimp only
    simp [h1, h3]
    (try grind)
  · funext f i j
    dsimp only
    by_cases c : f = 1 ∧ i = a
    · obtain ⟨rfl, rfl⟩ := c
      simp [h1]
      grind
    · have c0 : ¬ (f = 1 ∧ i = S.2.2.2.1 1) := by rw [h1]; exact c
      have cc : ∀ n, ¬ (f = 1 ∧ i = a ∧ j = n) := fun n z => c ⟨z.1, z.2.1⟩
      simp [c, cc, c0, h3]
      grind
  · funext f
    dsimp only
    simp [h1, h3]
    (try grind)
  · funext f i
    dsimp only
    simp [h1, h3]
    (try grind)
  · funext f
    dsimp only
    simp
    (try grind)

