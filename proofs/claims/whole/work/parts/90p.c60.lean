set_option maxHeartbeats 400000 in
set_option maxRecDepth 100000 in
theorem c_beginAlarm {E : awE} {S : awS} {M : aM} {τ : Nat → Nat → Nat} {Q : Option Value → awS → Nat → Nat → Prop} (R : cR τ S M) {r s w : Nat} {t : Int32} (hr : r < mN M 6) (hs : s < mN M 2) (h0 : (mN M 30) = 300 → Q none S 0 0) (h1 : (mN M 30) < 300 → ∀ (g : Nat) (q : Bool) (kc ks : Nat), ((q = false ∧ g < (mN M 48) ∧ mGrpI M r s = g) ∨ (q = true ∧ g = (mN M 48) ∧ mGrpI M r s = (mN M 48))) → kc ≤ (if q = true then 4 else 2) → ks ≤ (if q = true then 2 * (mN M 48) + 2 * (mN M 30) + 44 else 2 * (mN M 30) + 25) → Q none (bgS S (mN M 30) r s g w t q) kc ks) : awT true E m_X11_beginAlarm [.ref (nm 12 0), .ref (nm 6 r), .ref (nm 9 s), .ref (nm 11 w), .int t] S Q := by
  refine awT.of (by decide) (by decide) (Nat.le_of_ble_eq_true rfl) ?_
  have eA : sC S 1 = (mN M 30) := R.cx.2.2.2.2.2.2.2.2.2.2.2.1.trans (Nat.one_mul _)
  have eG : sC S 3 = (mN M 48) := R.cx.2.2.2.2.2.2.2.2.2.2.2.2.1.trans (Nat.one_mul _)
  refine ax_aload_n (i := 0) dX11_beginAlarm_0 rfl rfl rfl ?_
  refine ax_getR dX11_beginAlarm_1 fl_X11_22 rfl rfl rfl (R.tow.1 3 (by decide)) ?_
  refine ax_invV (c := 0) (n := 0) (As := []) dX11_beginAlarm_4 cb_Jx4a65c_size_8abf5 cv_X11_75.1 cv_X11_75.2.1 cv_X11_75.2.2 rfl (by decide) rfl ⟨Nat.le_of_ble_eq_true rfl, Nat.le_of_ble_eq_true rfl⟩ (Nat.le_of_ble_eq_true rfl) rfl (t_lsSize (q := 3) (by decide) (R.lq (by decide)) (R.lst.2.2.2.1) (Nat.lt_of_le_of_lt (mS_b R.mI (k := 30) (b := 300) (by decide)) (by decide)) ?_)
  refine ax_sipush (v := 300) dX11_beginAlarm_7 (by decide) ?_
  refine ax_icmp_lt (tgt := 14) dX11_beginAlarm_10 (by decide) (fun c_10 => ?_) (fun c_10 => ?_)
  · have hlt : (mN M 30) < 300 := nI_slt (b := 300) c_10 (by have := R.nA; omega)
    refine ax_aload_n (i := 3) dX11_beginAlarm_14 rfl rfl rfl ?_
    refine ax_new (f := 1) dX11_beginAlarm_15 nw_X11_240 rfl rfl ?_
    rw [show sC S 1 = (mN M 30) from eA]
    refine ax_dup dX11_beginAlarm_18 rfl ?_
    refine ax_aload_n (i := 0) dX11_beginAlarm_19 rfl rfl rfl ?_
    refine ax_getR dX11_beginAlarm_20 fl_X11_22 rfl rfl rfl (R.tow.1 3 (by decide)) ?_
    refine ax_invV (c := 0) (n := 0) (As := []) dX11_beginAlarm_23 cb_Jx4a65c_size_8abf5 cv_X11_75.1 cv_X11_75.2.1 cv_X11_75.2.2 rfl (by decide) rfl ⟨Nat.le_of_ble_eq_true rfl, Nat.le_of_ble_eq_true rfl⟩ (Nat.le_of_ble_eq_true rfl) rfl (t_lsSize (q := 3) (by decide) (R.lq (by decide)) (R.lst.2.2.2.1) (Nat.lt_of_le_of_lt (mS_b R.mI (k := 30) (b := 300) (by decide)) (by decide)) ?_)
    refine ax_aload_n (i := 1) dX11_beginAlarm_26 rfl rfl rfl ?_
    refine ax_aload_n (i := 2) dX11_beginAlarm_27 rfl rfl rfl ?_
    refine ax_aload_n (i := 0) dX11_beginAlarm_28 rfl rfl rfl ?_
    refine ax_aload_n (i := 1) dX11_beginAlarm_29 rfl rfl rfl ?_
    refine ax_aload_n (i := 2) dX11_beginAlarm_30 rfl rfl rfl ?_
    refine ax_invV (c := 12) (n := 2) (As := [_, _]) dX11_beginAlarm_31 cb_X11_groupOf cv_X11_257.1 cv_X11_257.2.1 cv_X11_257.2.2 rfl (by decide) rfl ⟨Nat.le_of_ble_eq_true rfl, Nat.le_of_ble_eq_true rfl⟩ (Nat.le_of_ble_eq_true rfl) rfl (c_groupOf R hr hs (fun c_31 => ?_) (fun c_31 => ?_))
    · intro hk eg
      refine ax_iload dX11_beginAlarm_34 rfl ?_
      refine ax_invI (n := 5) (As := [_, _, _, _, _]) dX11_beginAlarm_36 cb_X0_init ci_X11_261.1 ci_X11_261.2 rfl rfl rfl ⟨Nat.le_of_ble_eq_true rfl, Nat.le_of_ble_eq_true rfl⟩ (Nat.le_of_ble_eq_true rfl) rfl (c_iAlm ?_)
      refine ax_putR dX11_beginAlarm_39 fl_X11_219 rfl rfl rfl (Or.inl rfl) ?_
      refine ax_aload_n (i := 0) dX11_beginAlarm_42 rfl rfl rfl ?_
      refine ax_getR dX11_beginAlarm_43 fl_X11_22 rfl rfl rfl (R.tow.1 3 (by decide)) ?_
      refine ax_aload_n (i := 3) dX11_beginAlarm_46 rfl rfl rfl ?_
      refine ax_getR dX11_beginAlarm_47 fl_X11_219 rfl rfl rfl (if_pos ⟨rfl, rfl, rfl⟩) ?_
      refine ax_invV (c := 0) (n := 1) (As := [_]) dX11_beginAlarm_50 cb_Jx4a65c_add_9ea2d cv_X11_84.1 cv_X11_84.2.1 cv_X11_84.2.2 rfl (by decide) rfl ⟨Nat.le_of_ble_eq_true rfl, Nat.le_of_ble_eq_true rfl⟩ (Nat.le_of_ble_eq_true rfl) rfl (t_lsAdd (q := 3) (by decide) (R.lq (by decide)) (R.lst.2.2.2.1) (Nat.lt_of_le_of_lt (mS_b R.mI (k := 30) (b := 300) (by decide)) (by decide)) (by decide) (by decide) ?_)
      refine ax_pop dX11_beginAlarm_53 rfl ?_
      refine ax_vret dX11_beginAlarm_54 rfl ?_
      rw [bg_ef eA]
      exact h1 hlt c_31 false _ _ (Or.inl ⟨rfl, hk, eg⟩) (by rw [if_neg (by decide)]; omega) (by rw [if_neg (by decide)]; have e : (oCl 1).2.2 = 13 := rfl; omega)
    · intro kc ks hkc hks
      refine ax_iload dX11_beginAlarm_34 rfl ?_
      refine ax_invI (n := 5) (As := [_, _, _, _, _]) dX11_beginAlarm_36 cb_X0_init ci_X11_261.1 ci_X11_261.2 rfl rfl rfl ⟨Nat.le_of_ble_eq_true rfl, Nat.le_of_ble_eq_true rfl⟩ (Nat.le_of_ble_eq_true rfl) rfl (c_iAlm ?_)
      refine ax_putR dX11_beginAlarm_39 fl_X11_219 rfl rfl rfl (Or.inl rfl) ?_
      refine ax_aload_n (i := 0) dX11_beginAlarm_42 rfl rfl rfl ?_
      refine ax_getR dX11_beginAlarm_43 fl_X11_22 rfl rfl rfl (R.tow.1 3 (by decide)) ?_
      refine ax_aload_n (i := 3) dX11_beginAlarm_46 rfl rfl rfl ?_
      refine ax_getR dX11_beginAlarm_47 fl_X11_219 rfl rfl rfl (if_pos ⟨rfl, rfl, rfl⟩) ?_
      refine ax_invV (c := 0) (n := 1) (As := [_]) dX11_beginAlarm_50 cb_Jx4a65c_add_9ea2d cv_X11_84.1 cv_X11_84.2.1 cv_X11_84.2.2 rfl (by decide) rfl ⟨Nat.le_of_ble_eq_true rfl, Nat.le_of_ble_eq_true rfl⟩ (Nat.le_of_ble_eq_true rfl) rfl (t_lsAdd (q := 3) (by decide) (R.lq (by decide)) (R.lst.2.2.2.1) (Nat.lt_of_le_of_lt (mS_b R.mI (k := 30) (b := 300) (by decide)) (by decide)) (by decide) (by decide) ?_)
      refine ax_pop dX11_beginAlarm_53 rfl ?_
      refine ax_vret dX11_beginAlarm_54 rfl ?_
      rw [bg_et eA eG]
      exact h1 hlt (mN M 48) true _ _ (Or.inr ⟨rfl, rfl, c_31⟩) (by rw [if_pos rfl]; omega) (by rw [if_pos rfl]; have e : (oCl 1).2.2 = 13 := rfl; omega)
  · refine ax_vret dX11_beginAlarm_13 rfl ?_
    exact h0 (Nat.le_antisymm R.nA (Nat.le_of_not_lt (fun z => c_10 (nI_lt (b := 300) z (by decide)))))
def zz (M : aM) : Nat := mN M 30 + mN M 48 + mN M 63
theorem begM {τ : Nat → Nat → Nat} {S : awS} {M : aM} {r s t g : Nat} {q : Bool} (R : cR τ S M) (h : (q = false ∧ g < (mN M 48) ∧ mGrpI M r s = g) ∨ (q = true ∧ g = (mN M 48) ∧ mGrpI M r s = (mN M 48))) : mBegin M r s t = bgM M (mN M 30) r s g (16 * r + s) (nI t) q := by
  unfold mBegin mGrp
  rcases h with ⟨h1, h2, h3⟩ | ⟨h1, h2, h3⟩
  · rw [h3, if_pos h2, h1]
    exact bgM_f rfl
  · rw [h3, if_neg (Nat.lt_irrefl _), h1, h2]
    exact bgM_t rfl (mS_nI R.mI (k := 30) (b := 300) (by decide)) (mS_nI R.mI (k := 48) (b := 300) (by decide))
theorem zz_bg {M : aM} {a r s g w : Nat} {t : Int32} {q : Bool} (ha : a < 300) (hg : g ≤ 300) (e : mN M 30 = a) (eg : q = true → mN M 48 = g) : zz (bgM M a r s g w t q) = zz M + (if q = true then 2 else 1) := by
  unfold zz
  rw [bm_S30, bm_S48, show nN (nI (a + 1)) = a + 1 from nI_cl (by omega), show nN (nI (g + 1)) = g + 1 from nI_cl (by omega), show mN (bgM M a r s g w t q) 63 = mN M 63 from rfl, e]
  by_cases c : q = true
  · rw [if_pos c, if_pos c, eg c]; omega
  · rw [if_neg c, if_neg c]; omega
theorem mNote_S (M : aM) (x t : Nat) (v : Int32) (k : Nat) : mS (mNote M x t v) k = mS M k := by
  unfold mNote
  by_cases c : v = 1
  · rw [if_pos c]; rfl
  · rw [if_neg c]
    by_cases c2 : v = 0
    · rw [if_pos c2]; rfl
    · rw [if_neg c2]; rfl
theorem mNote_o {M : aM} {x t : Nat} {v : Int32} (hv : v = -1 ∨ v = 0 ∨ v = 1) {k : Nat} (hk : ¬ k = 16 ∧ ¬ k = 17 ∧ ¬ k = 18 ∧ ¬ k = 19) (j : Nat) : mA (mNote M x t v) k j = mA M k j := by
  rw [noM_e hv]
  exact nm_o hk j
theorem found_v (M : aM) (r s t : Nat) : mFound M r s t = -1 ∨ mFound M r s t = 0 ∨ mFound M r s t = 1 := by
  have iI : ∀ {p : Prop} [Decidable p], (if p then (1 : Int32) else 0) = -1 ∨ (if p then (1 : Int32) else 0) = 0 ∨ (if p then (1 : Int32) else 0) = 1 := fun {p} _ => by
    by_cases c : p
    · rw [if_pos c]; exact Or.inr (Or.inr rfl)
    · rw [if_neg c]; exact Or.inr (Or.inl rfl)
  unfold mFound
  split
  · exact Or.inl rfl
  · split
    · exact iI
    · split
      · unfold mBoth
        split
        · exact Or.inr (Or.inr rfl)
        · split
          · exact Or.inr (Or.inl rfl)
          · exact Or.inl rfl
      · by_cases c : mHas M s t
        · rw [iC_t c]
          simp only []
          split
          · exact iI
          · split
            · exact iI
            · split
              · by_cases c2 : mHas M s (t - mE M 8 r)
                · rw [iC_t c2]; exact iI
                · rw [iC_f c2]; exact Or.inl rfl
              · split
                · exact Or.inr (bC_01 _)
                · unfold mOdd
                  simp only []
                  by_cases c3 : mCnt M s False 0 (t - 1) (mE M 8 r) < 3
                  · rw [if_pos c3]; exact Or.inr (Or.inl rfl)
                  · rw [if_neg c3]; exact iI
        · rw [iC_f c]; exact Or.inl rfl

