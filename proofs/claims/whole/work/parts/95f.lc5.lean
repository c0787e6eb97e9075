-- toss and element in the law
theorem ch_Ttoss : awCallH m_Ttoss 1 := ⟨awBig_tab (n := 1) (by decide +kernel) (by decide +kernel), awBig_tab (n := 1064) (by decide +kernel) (by decide +kernel), by decide, by decide, by decide +kernel⟩
theorem cv_Ttoss : awCV "AlarmTowerLaw" 158 m_Ttoss := ⟨awBig_tab (n := 1061) (by decide +kernel) (by decide +kernel), awBig_tab (n := 1062) (by decide +kernel) (by decide +kernel), awBig_tab (n := 1063) (by decide +kernel) (by decide +kernel)⟩
theorem ch_Lelt : awCallH m_Lelt 4 := ⟨awBig_tab (n := 0) (by decide +kernel) (by decide +kernel), awBig_tab (n := 1137) (by decide +kernel) (by decide +kernel), by decide, by decide, by decide +kernel⟩
theorem cs_Lelt : awCS "AlarmTowerLaw" 141 m_Lelt := ⟨awBig_tab (n := 1135) (by decide +kernel) (by decide +kernel), awBig_tab (n := 1136) (by decide +kernel) (by decide +kernel)⟩
theorem zz_el {M : aM} {d i : Int32} : zz (mElement M d i).1 = zz M := rfl
theorem cmp_self (x : Int64) : lg_cmp x x = 0 := by
  unfold lg_cmp
  simp
theorem cR.w29 {τ : Nat → Nat → Nat} {S : awS} {M : aM} (h : cR τ S M) (v : Int64) : cR τ (wL S 29 0 0 v) M := cR.mk' h.mI h.tow h.lst h.cx h.cnt.2.1 h.cnt.2.2 h.src h.rul h.ala h.ltr h.brd h.ix h.la h.sca h.val h.ref h.wat h.flg h.tru h.hld h.lea h.row h.bdr h.inv
theorem par_w29 {S : awS} {M : aM} (h : parM S = M) (v : Int64) : parM (wL S 29 0 0 v) = M := by
  rw [← h]
  refine Prod.ext rfl (Prod.ext rfl ?_)
  funext k j
  exact if_neg (fun z => absurd z.1 (by omega))

set_option maxHeartbeats 400000 in
set_option maxRecDepth 100000 in
theorem lc_30 {E : awE} {S : awS} {M : aM} {j kc ks : Nat} {Q : Option Value → awS → Nat → Nat → Prop} (I : lwS S M) (hj : 7 * j + 7 ≤ awE_n E) (hnb : awE_n E < 2 ^ 31) (k : lwK E M j kc ks Q) : awV true E m_law 1460 (lwL j) [] S kc ks Q := by
  refine av_aload_n (i := 1) dL_law_1460 rfl rfl rfl ?_
  refine av_aload_n (i := 0) dL_law_1461 rfl rfl rfl ?_
  refine av_iload dL_law_1462 rfl ?_
  refine av_iconst (v := 1) dL_law_1464 (by decide) ?_
  refine av_iadd1 dL_law_1465 ?_
  refine av_sldN dL_law_1466 (by omega) hnb ?_
  refine av_hdV (cc := 12) (n := 1) (As := [_]) dL_law_1467 ch_Ttoss cv_Ttoss.1 cv_Ttoss.2.1 cv_Ttoss.2.2 rfl (by decide) rfl ⟨Nat.le_of_ble_eq_true rfl, Nat.le_of_ble_eq_true rfl⟩ (Nat.le_of_ble_eq_true rfl) rfl (I.callV (fun Q h => c_toss I.2.2.1 h) (fun S1 mc ms n1 b1 b2 => Or.inl ⟨rfl, ?_⟩))
  refine av_aload_n (i := 2) dL_law_1470 rfl rfl rfl ?_
  refine av_aload_n (i := 0) dL_law_1471 rfl rfl rfl ?_
  refine av_iload dL_law_1472 rfl ?_
  refine av_iconst (v := 1) dL_law_1474 (by decide) ?_
  refine av_iadd1 dL_law_1475 ?_
  refine av_sldN dL_law_1476 (by omega) hnb ?_
  refine av_sE (par_e n1.1) ?_
  refine av_invV (c := 13) (n := 1) (As := [_]) dL_law_1477 cb_X12_toss cv_L_161.1 cv_L_161.2.1 cv_L_161.2.2 rfl (by decide) rfl ⟨Nat.le_of_ble_eq_true rfl, Nat.le_of_ble_eq_true rfl⟩ (Nat.le_of_ble_eq_true rfl) rfl (t_toss n1.2.1 I.2.2.1.1.mI I.2.2.1.1.bd0 _ ?_)
  refine av_icmp_eq (tgt := 1485) dL_law_1480 (by decide) (fun c_1480 => ?_) (fun c_1480 => ?_)
  · exact k _ _ _ _ (lwS.put n1.2.1 n1.2.2.1 n1.2.2.2.1) n1.2.2.2.2 (by omega) (by omega)
  · exact absurd rfl c_1480
set_option maxHeartbeats 400000 in
set_option maxRecDepth 100000 in
theorem lc_27 {E : awE} {S : awS} {M : aM} {j kc ks : Nat} {Q : Option Value → awS → Nat → Nat → Prop} (I : lwS S M) (hj : 7 * j + 7 ≤ awE_n E) (hnb : awE_n E < 2 ^ 31) (k : lwK E M j kc ks Q) : awV true E m_law 1295 (lwL j) [] S kc ks Q := by
  refine av_aload_n (i := 1) dL_law_1295 rfl rfl rfl ?_
  refine av_aload_n (i := 0) dL_law_1296 rfl rfl rfl ?_
  refine av_iload dL_law_1297 rfl ?_
  refine av_iconst (v := 1) dL_law_1299 (by decide) ?_
  refine av_iadd1 dL_law_1300 ?_
  refine av_sldN dL_law_1301 (by omega) hnb ?_
  refine av_aload_n (i := 0) dL_law_1302 rfl rfl rfl ?_
  refine av_iload dL_law_1303 rfl ?_
  refine av_iconst (v := nI 2) dL_law_1305 (by decide) ?_
  refine av_iaddN dL_law_1306 ?_
  refine av_sldN dL_law_1307 (by omega) hnb ?_
  refine av_aload_n (i := 3) dL_law_1308 rfl rfl rfl ?_
  refine av_hdS (n := 4) (As := [_, _, _, _]) dL_law_1309 ch_Lelt cs_Lelt.1 cs_Lelt.2 rfl ⟨Nat.le_of_ble_eq_true rfl, Nat.le_of_ble_eq_true rfl⟩ (Nat.le_of_ble_eq_true rfl) rfl (c_lel I.2.2.1.1 I.2.2.2 (fun hg => ?_) (fun m1 => ?_) (fun m1 m2 => ?_))
  · refine Or.inl ⟨rfl, ?_⟩
    refine av_istore (lv' := [(5, _), (4, _), (0, _), (1, _), (2, _), (3, _)]) dL_law_1312 (by decide) rfl ?_
    refine av_aload_n (i := 2) dL_law_1314 rfl rfl rfl ?_
    refine av_aload_n (i := 0) dL_law_1315 rfl rfl rfl ?_
    refine av_iload dL_law_1316 rfl ?_
    refine av_iconst (v := 1) dL_law_1318 (by decide) ?_
    refine av_iadd1 dL_law_1319 ?_
    refine av_sldN dL_law_1320 (by omega) hnb ?_
    refine av_aload_n (i := 0) dL_law_1321 rfl rfl rfl ?_
    refine av_iload dL_law_1322 rfl ?_
    refine av_iconst (v := nI 2) dL_law_1324 (by decide) ?_
    refine av_iaddN dL_law_1325 ?_
    refine av_sldN dL_law_1326 (by omega) hnb ?_
    refine av_sE (par_e (par_w29 I.1 _)) ?_
    refine av_invV (c := 13) (n := 2) (As := [_, _]) dL_law_1327 cb_X12_element cv_L_146.1 cv_L_146.2.1 cv_L_146.2.2 rfl (by decide) rfl ⟨Nat.le_of_ble_eq_true rfl, Nat.le_of_ble_eq_true rfl⟩ (Nat.le_of_ble_eq_true rfl) rfl (t_element (show mOk (wL S 29 0 0 _) from I.2.1) I.2.2.1.1.mI _ _ ?_)
    refine av_lstore (lv' := [(6, _), (5, _), (4, _), (0, _), (1, _), (2, _), (3, _)]) dL_law_1330 (by decide) rfl ?_
    refine av_aload_n (i := 2) dL_law_1332 rfl rfl rfl ?_
    refine av_invV (c := 13) (n := 0) (As := []) dL_law_1333 cb_X12_thrown cv_L_147.1 cv_L_147.2.1 cv_L_147.2.2 rfl (by decide) rfl ⟨Nat.le_of_ble_eq_true rfl, Nat.le_of_ble_eq_true rfl⟩ (Nat.le_of_ble_eq_true rfl) rfl (t_thrown (show mOk (wL S 29 0 0 _) from I.2.1) ?_)
    refine av_iload dL_law_1336 rfl ?_
    rw [show mS (mElement M _ _).1 0 = 0 from (if_neg (fun z => z hg.1)).trans (if_pos hg)]
    refine av_icmp_eq (tgt := 1343) dL_law_1338 (by decide) (fun c_1338 => ?_) (fun c_1338 => ?_)
    · refine av_iload dL_law_1343 rfl ?_
      refine av_if_ne (tgt := 1359) dL_law_1345 (by decide) (fun z => absurd z (by decide)) (fun _ => ?_)
      refine av_aload_n (i := 3) dL_law_1348 rfl rfl rfl ?_
      refine av_iconst (v := nI 0) dL_law_1349 (by decide) ?_
      refine av_laldN dL_law_1350 rfl rfl (N := 1) I.2.2.2 (by decide) (by omega) ?_
      refine av_lload dL_law_1351 rfl ?_
      refine av_lcmp dL_law_1353 ?_
      rw [show sL (putM (wL S 29 0 0 (mElement M _ _).2) (mElement M _ _).1) 29 0 0 = (mElement M _ _).2 from rfl, cmp_self]
      refine av_if_eq (tgt := 1359) dL_law_1354 (by decide) (fun c_1354 => ?_) (fun c_1354 => ?_)
      · refine av_goto (tgt := 1485) dL_law_1359 (by decide) ?_
        exact av_loc rfl (k _ _ _ _ (lwS.put (show mOk (wL S 29 0 0 _) from I.2.1) (cRR.th (⟨I.2.2.1.1.w29 _, I.2.2.1.2⟩ : cRR (wL S 29 0 0 (mElement M _ _).2) M) _) (show sN (wL S 29 0 0 _) 29 0 = 1 from I.2.2.2)) (Nat.le_refl _) (by rw [zz_el]; omega) (by rw [zz_el]; omega))
      · exact absurd rfl c_1354
    · exact absurd rfl c_1338
  · refine Or.inl ⟨rfl, ?_⟩
    refine av_istore (lv' := [(5, _), (4, _), (0, _), (1, _), (2, _), (3, _)]) dL_law_1312 (by decide) rfl ?_
    refine av_aload_n (i := 2) dL_law_1314 rfl rfl rfl ?_
    refine av_aload_n (i := 0) dL_law_1315 rfl rfl rfl ?_
    refine av_iload dL_law_1316 rfl ?_
    refine av_iconst (v := 1) dL_law_1318 (by decide) ?_
    refine av_iadd1 dL_law_1319 ?_
    refine av_sldN dL_law_1320 (by omega) hnb ?_
    refine av_aload_n (i := 0) dL_law_1321 rfl rfl rfl ?_
    refine av_iload dL_law_1322 rfl ?_
    refine av_iconst (v := nI 2) dL_law_1324 (by decide) ?_
    refine av_iaddN dL_law_1325 ?_
    refine av_sldN dL_law_1326 (by omega) hnb ?_
    refine av_sE (par_e I.1) ?_
    refine av_invV (c := 13) (n := 2) (As := [_, _]) dL_law_1327 cb_X12_element cv_L_146.1 cv_L_146.2.1 cv_L_146.2.2 rfl (by decide) rfl ⟨Nat.le_of_ble_eq_true rfl, Nat.le_of_ble_eq_true rfl⟩ (Nat.le_of_ble_eq_true rfl) rfl (t_element I.2.1 I.2.2.1.1.mI _ _ ?_)
    refine av_lstore (lv' := [(6, _), (5, _), (4, _), (0, _), (1, _), (2, _), (3, _)]) dL_law_1330 (by decide) rfl ?_
    refine av_aload_n (i := 2) dL_law_1332 rfl rfl rfl ?_
    refine av_invV (c := 13) (n := 0) (As := []) dL_law_1333 cb_X12_thrown cv_L_147.1 cv_L_147.2.1 cv_L_147.2.2 rfl (by decide) rfl ⟨Nat.le_of_ble_eq_true rfl, Nat.le_of_ble_eq_true rfl⟩ (Nat.le_of_ble_eq_true rfl) rfl (t_thrown I.2.1 ?_)
    refine av_iload dL_law_1336 rfl ?_
    rw [show mS (mElement M _ _).1 0 = 1 from if_pos m1]
    refine av_icmp_eq (tgt := 1343) dL_law_1338 (by decide) (fun c_1338 => ?_) (fun c_1338 => ?_)
    · refine av_iload dL_law_1343 rfl ?_
      refine av_if_ne (tgt := 1359) dL_law_1345 (by decide) (fun _ => ?_) (fun z => absurd (by decide) z)
      refine av_goto (tgt := 1485) dL_law_1359 (by decide) ?_
      exact av_loc rfl (k _ _ _ _ (lwS.put I.2.1 (cRR.th I.2.2.1 _) I.2.2.2) (Nat.le_refl _) (by rw [zz_el]; omega) (by rw [zz_el]; omega))
    · exact absurd rfl c_1338
  · refine Or.inl ⟨rfl, ?_⟩
    refine av_istore (lv' := [(5, _), (4, _), (0, _), (1, _), (2, _), (3, _)]) dL_law_1312 (by decide) rfl ?_
    refine av_aload_n (i := 2) dL_law_1314 rfl rfl rfl ?_
    refine av_aload_n (i := 0) dL_law_1315 rfl rfl rfl ?_
    refine av_iload dL_law_1316 rfl ?_
    refine av_iconst (v := 1) dL_law_1318 (by decide) ?_
    refine av_iadd1 dL_law_1319 ?_
    refine av_sldN dL_law_1320 (by omega) hnb ?_
    refine av_aload_n (i := 0) dL_law_1321 rfl rfl rfl ?_
    refine av_iload dL_law_1322 rfl ?_
    refine av_iconst (v := nI 2) dL_law_1324 (by decide) ?_
    refine av_iaddN dL_law_1325 ?_
    refine av_sldN dL_law_1326 (by omega) hnb ?_
    refine av_sE (par_e I.1) ?_
    refine av_invV (c := 13) (n := 2) (As := [_, _]) dL_law_1327 cb_X12_element cv_L_146.1 cv_L_146.2.1 cv_L_146.2.2 rfl (by decide) rfl ⟨Nat.le_of_ble_eq_true rfl, Nat.le_of_ble_eq_true rfl⟩ (Nat.le_of_ble_eq_true rfl) rfl (t_element I.2.1 I.2.2.1.1.mI _ _ ?_)
    refine av_lstore (lv' := [(6, _), (5, _), (4, _), (0, _), (1, _), (2, _), (3, _)]) dL_law_1330 (by decide) rfl ?_
    refine av_aload_n (i := 2) dL_law_1332 rfl rfl rfl ?_
    refine av_invV (c := 13) (n := 0) (As := []) dL_law_1333 cb_X12_thrown cv_L_147.1 cv_L_147.2.1 cv_L_147.2.2 rfl (by decide) rfl ⟨Nat.le_of_ble_eq_true rfl, Nat.le_of_ble_eq_true rfl⟩ (Nat.le_of_ble_eq_true rfl) rfl (t_thrown I.2.1 ?_)
    refine av_iload dL_law_1336 rfl ?_
    rw [show mS (mElement M _ _).1 0 = 2 from (if_neg (fun z => z m1)).trans (if_neg m2)]
    refine av_icmp_eq (tgt := 1343) dL_law_1338 (by decide) (fun c_1338 => ?_) (fun c_1338 => ?_)
    · refine av_iload dL_law_1343 rfl ?_
      refine av_if_ne (tgt := 1359) dL_law_1345 (by decide) (fun _ => ?_) (fun z => absurd (by decide) z)
      refine av_goto (tgt := 1485) dL_law_1359 (by decide) ?_
      exact av_loc rfl (k _ _ _ _ (lwS.put I.2.1 (cRR.th I.2.2.1 _) I.2.2.2) (Nat.le_refl _) (by rw [zz_el]; omega) (by rw [zz_el]; omega))
    · exact absurd rfl c_1338
