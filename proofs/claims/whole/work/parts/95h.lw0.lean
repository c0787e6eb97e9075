-- the law from its first instruction
theorem zz_0 : zz (iM 256) = 0 := by
  unfold zz
  rw [iM_n (k := 30) rfl, iM_n (k := 48) rfl, iM_n (k := 63) rfl]
theorem aS1_lw : lwS aS1 (iM 256) := ⟨aS1_par, aS1_ok, aS1_R, rfl⟩
theorem lw_all {E : awE} (hn : awE_n E ≤ 3584) : awV true E m_law 0 [(0, .ref nmS)] [] aS00 0 0 lwE := by
  refine av_new (f := 12) dL_law_0 nw_L_8 rfl rfl ?_
  refine av_dup dL_law_3 rfl ?_
  refine av_invI (n := 0) (As := []) dL_law_4 cb_X11_init ci_L_17.1 ci_L_17.2 rfl rfl rfl ⟨Nat.le_of_ble_eq_true rfl, Nat.le_of_ble_eq_true rfl⟩ (Nat.le_of_ble_eq_true rfl) rfl (c_iTow ?_)
  refine av_astore_n (i := 1) (lv' := [(1, _), (0, _)]) dL_law_7 rfl (by decide) rfl rfl ?_
  refine av_new (f := 13) dL_law_8 nw_L_18 rfl rfl ?_
  refine av_dup dL_law_11 rfl ?_
  refine av_invI (n := 0) (As := []) dL_law_12 cb_X12_init ci_L_20.1 ci_L_20.2 rfl rfl rfl ⟨Nat.le_of_ble_eq_true rfl, Nat.le_of_ble_eq_true rfl⟩ (Nat.le_of_ble_eq_true rfl) rfl (c_iMod hiZ_m ?_)
  refine av_astore_n (i := 2) (lv' := [(2, _), (1, _), (0, _)]) dL_law_15 rfl (by decide) rfl rfl ?_
  refine av_iconst (v := 1) dL_law_16 (by decide) ?_
  refine av_newJ (f := 29) (n := 1) dL_law_17 ka_long rfl rfl (by decide) (by decide) (by decide) ?_
  refine av_astore_n (i := 3) (lv' := [(3, _), (2, _), (1, _), (0, _)]) dL_law_19 rfl (by decide) rfl rfl ?_
  refine av_iconst (v := 0) dL_law_20 (by decide) ?_
  refine av_istore (lv' := [(4, _), (3, _), (2, _), (1, _), (0, _)]) dL_law_21 (by decide) rfl ?_
  exact av_loc rfl (lw_loop hn (awE_n E / 7) 0 aS1 (iM 256) _ _ (Nat.zero_add _) aS1_lw (by rw [zz_0]; decide) (by rw [zz_0]; decide))

