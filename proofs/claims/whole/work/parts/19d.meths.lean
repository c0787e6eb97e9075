theorem cv_X12_321 : awCV "AlarmTowerModel" 321 m_X12_both := ⟨awBig_tab (n := 1530) (by decide +kernel) (by decide +kernel), awBig_tab (n := 1532) (by decide +kernel) (by decide +kernel), awBig_sel (n := 49) (by decide +kernel) (by decide +kernel)⟩
theorem cv_X12_325 : awCV "AlarmTowerModel" 325 m_X12_isPart := ⟨awBig_tab (n := 1534) (by decide +kernel) (by decide +kernel), awBig_tab (n := 1536) (by decide +kernel) (by decide +kernel), awBig_sel (n := 50) (by decide +kernel) (by decide +kernel)⟩
theorem cv_X12_329 : awCV "AlarmTowerModel" 329 m_X12_odd := ⟨awBig_tab (n := 1538) (by decide +kernel) (by decide +kernel), awBig_tab (n := 1540) (by decide +kernel) (by decide +kernel), awBig_sel (n := 51) (by decide +kernel) (by decide +kernel)⟩
theorem cv_X12_336 : awCV "AlarmTowerModel" 336 m_X12_groupOf := ⟨awBig_tab (n := 1550) (by decide +kernel) (by decide +kernel), awBig_tab (n := 1552) (by decide +kernel) (by decide +kernel), awBig_sel (n := 54) (by decide +kernel) (by decide +kernel)⟩
theorem cv_X12_339 : awCV "AlarmTowerModel" 339 m_X12_found := ⟨awBig_tab (n := 1514) (by decide +kernel) (by decide +kernel), awBig_tab (n := 1516) (by decide +kernel) (by decide +kernel), awBig_sel (n := 45) (by decide +kernel) (by decide +kernel)⟩
theorem cv_X12_342 : awCV "AlarmTowerModel" 342 m_X12_begin := ⟨awBig_tab (n := 1546) (by decide +kernel) (by decide +kernel), awBig_tab (n := 1548) (by decide +kernel) (by decide +kernel), awBig_sel (n := 53) (by decide +kernel) (by decide +kernel)⟩
theorem cv_X12_346 : awCV "AlarmTowerModel" 346 m_X12_held := ⟨awBig_tab (n := 1558) (by decide +kernel) (by decide +kernel), awBig_tab (n := 1560) (by decide +kernel) (by decide +kernel), awBig_sel (n := 56) (by decide +kernel) (by decide +kernel)⟩
theorem cv_X12_349 : awCV "AlarmTowerModel" 349 m_X12_silenced := ⟨awBig_tab (n := 1562) (by decide +kernel) (by decide +kernel), awBig_tab (n := 1564) (by decide +kernel) (by decide +kernel), awBig_sel (n := 57) (by decide +kernel) (by decide +kernel)⟩
theorem cv_X12_352 : awCV "AlarmTowerModel" 352 m_X12_place := ⟨awBig_tab (n := 1586) (by decide +kernel) (by decide +kernel), awBig_tab (n := 1588) (by decide +kernel) (by decide +kernel), awBig_sel (n := 63) (by decide +kernel) (by decide +kernel)⟩
theorem cv_X12_359 : awCV "AlarmTowerModel" 359 m_X12_stepOf := ⟨awBig_tab (n := 1590) (by decide +kernel) (by decide +kernel), awBig_tab (n := 1592) (by decide +kernel) (by decide +kernel), awBig_sel (n := 64) (by decide +kernel) (by decide +kernel)⟩
theorem cv_X12_365 : awCV "AlarmTowerModel" 365 m_X12_write := ⟨awBig_tab (n := 1578) (by decide +kernel) (by decide +kernel), awBig_tab (n := 1580) (by decide +kernel) (by decide +kernel), awBig_sel (n := 61) (by decide +kernel) (by decide +kernel)⟩
theorem cv_X12_369 : awCV "AlarmTowerModel" 369 m_X12_wake := ⟨awBig_tab (n := 1582) (by decide +kernel) (by decide +kernel), awBig_tab (n := 1584) (by decide +kernel) (by decide +kernel), awBig_sel (n := 62) (by decide +kernel) (by decide +kernel)⟩
theorem cv_X12_372 : awCV "AlarmTowerModel" 372 m_X12_judge := ⟨awBig_tab (n := 1510) (by decide +kernel) (by decide +kernel), awBig_tab (n := 1512) (by decide +kernel) (by decide +kernel), awBig_sel (n := 44) (by decide +kernel) (by decide +kernel)⟩
theorem cv_X12_375 : awCV "AlarmTowerModel" 375 m_X12_clearAll := ⟨awBig_tab (n := 1554) (by decide +kernel) (by decide +kernel), awBig_tab (n := 1556) (by decide +kernel) (by decide +kernel), awBig_sel (n := 55) (by decide +kernel) (by decide +kernel)⟩
theorem cv_X12_378 : awCV "AlarmTowerModel" 378 m_X12_goUp := ⟨awBig_tab (n := 1566) (by decide +kernel) (by decide +kernel), awBig_tab (n := 1568) (by decide +kernel) (by decide +kernel), awBig_sel (n := 58) (by decide +kernel) (by decide +kernel)⟩
theorem cv_X12_381 : awCV "AlarmTowerModel" 381 m_X12_reason := ⟨awBig_tab (n := 1570) (by decide +kernel) (by decide +kernel), awBig_tab (n := 1572) (by decide +kernel) (by decide +kernel), awBig_sel (n := 59) (by decide +kernel) (by decide +kernel)⟩
theorem cv_X12_384 : awCV "AlarmTowerModel" 384 m_X12_send := ⟨awBig_tab (n := 1574) (by decide +kernel) (by decide +kernel), awBig_tab (n := 1576) (by decide +kernel) (by decide +kernel), awBig_sel (n := 60) (by decide +kernel) (by decide +kernel)⟩
theorem cv_X12_387 : awCV "AlarmTowerModel" 387 m_X12_isLetter := ⟨awBig_tab (n := 1610) (by decide +kernel) (by decide +kernel), awBig_tab (n := 1612) (by decide +kernel) (by decide +kernel), awBig_sel (n := 65) (by decide +kernel) (by decide +kernel)⟩
theorem cv_X12_390 : awCV "AlarmTowerModel" 390 m_X12_wentTo := ⟨awBig_tab (n := 1634) (by decide +kernel) (by decide +kernel), awBig_tab (n := 1636) (by decide +kernel) (by decide +kernel), awBig_sel (n := 66) (by decide +kernel) (by decide +kernel)⟩
theorem cs_X12_395 : awCS "AlarmTowerModel" 395 m_X12_isBoard := ⟨awBig_tab (n := 1659) (by decide +kernel) (by decide +kernel), awBig_tab (n := 1660) (by decide +kernel) (by decide +kernel)⟩
theorem cv_X12_402 : awCV "AlarmTowerModel" 402 m_X12_hasPlaces := ⟨awBig_tab (n := 1676) (by decide +kernel) (by decide +kernel), awBig_tab (n := 1678) (by decide +kernel) (by decide +kernel), awBig_sel (n := 67) (by decide +kernel) (by decide +kernel)⟩
theorem cv_X12_406 : awCV "AlarmTowerModel" 406 m_X12_denied := ⟨awBig_tab (n := 1684) (by decide +kernel) (by decide +kernel), awBig_tab (n := 1686) (by decide +kernel) (by decide +kernel), awBig_sel (n := 68) (by decide +kernel) (by decide +kernel)⟩
theorem ci_J_AbstractList_1 : awCI "java/util/AbstractList" 1 m_Jxa1e45_init_da8c8 := ⟨awBig_tab (n := 44) (by decide +kernel) (by decide +kernel), awBig_tab (n := 45) (by decide +kernel) (by decide +kernel)⟩
theorem ci_J_1 : awCI "java/util/ArrayList" 1 m_Jxc12de_init_da8c8 := ⟨awBig_tab (n := 41) (by decide +kernel) (by decide +kernel), awBig_tab (n := 42) (by decide +kernel) (by decide +kernel)⟩
theorem cs_J_66 : awCS "java/util/ArrayList" 66 m_J7_copyOf_1904c := ⟨awBig_tab (n := 138) (by decide +kernel) (by decide +kernel), awBig_tab (n := 139) (by decide +kernel) (by decide +kernel)⟩
theorem cv_J_69 : awCV "java/util/ArrayList" 69 m_Jx4a65c_grow_92f84 := ⟨awBig_tab (n := 124) (by decide +kernel) (by decide +kernel), awBig_tab (n := 126) (by decide +kernel) (by decide +kernel), awBig_sel (n := 2) (by decide +kernel) (by decide +kernel)⟩
theorem cs_J_73 : awCS "java/util/ArrayList" 73 m_J8_newLength_cabcc := ⟨awBig_tab (n := 128) (by decide +kernel) (by decide +kernel), awBig_tab (n := 129) (by decide +kernel) (by decide +kernel)⟩
theorem cs_J_79 : awCS "java/util/ArrayList" 79 m_J9_max_7cf53 := ⟨awBig_tab (n := 173) (by decide +kernel) (by decide +kernel), awBig_tab (n := 132) (by decide +kernel) (by decide +kernel)⟩
theorem cs_J_118 : awCS "java/util/ArrayList" 118 m_J15_checkIndex_7cf53 := ⟨awBig_tab (n := 373) (by decide +kernel) (by decide +kernel), awBig_tab (n := 374) (by decide +kernel) (by decide +kernel)⟩
theorem cv_J_123 : awCV "java/util/ArrayList" 123 m_Jx4a65c_elementData_915e3 := ⟨awBig_tab (n := 379) (by decide +kernel) (by decide +kernel), awBig_tab (n := 380) (by decide +kernel) (by decide +kernel), awBig_tab (n := 381) (by decide +kernel) (by decide +kernel)⟩
theorem cv_J_129 : awCV "java/util/ArrayList" 129 m_Jx4a65c_grow_d5877 := ⟨awBig_tab (n := 120) (by decide +kernel) (by decide +kernel), awBig_tab (n := 122) (by decide +kernel) (by decide +kernel), awBig_sel (n := 1) (by decide +kernel) (by decide +kernel)⟩
theorem cv_J_131 : awCV "java/util/ArrayList" 131 m_Jx4a65c_add_72be8 := ⟨awBig_tab (n := 116) (by decide +kernel) (by decide +kernel), awBig_tab (n := 118) (by decide +kernel) (by decide +kernel), awBig_sel (n := 0) (by decide +kernel) (by decide +kernel)⟩
theorem cs_J_Arrays_300 : awCS "java/util/Arrays" 300 m_J7_copyOf_6403c := ⟨awBig_tab (n := 161) (by decide +kernel) (by decide +kernel), awBig_tab (n := 162) (by decide +kernel) (by decide +kernel)⟩
theorem cs_J_Arrays_304 : awCS "java/util/Arrays" 304 m_J9_min_7cf53 := ⟨awBig_tab (n := 167) (by decide +kernel) (by decide +kernel), awBig_tab (n := 168) (by decide +kernel) (by decide +kernel)⟩
theorem cs_J_Objects_105 : awCS "java/util/Objects" 105 m_J3_checkIndex_8e157 := ⟨awBig_tab (n := 376) (by decide +kernel) (by decide +kernel), awBig_tab (n := 377) (by decide +kernel) (by decide +kernel)⟩
theorem cs_J_ArraysSupport_194 : awCS "jdk/internal/util/ArraysSupport" 194 m_J9_max_7cf53 := ⟨awBig_tab (n := 131) (by decide +kernel) (by decide +kernel), awBig_tab (n := 132) (by decide +kernel) (by decide +kernel)⟩
theorem cs_J_ArraysSupport_201 : awCS "jdk/internal/util/ArraysSupport" 201 m_J8_hugeLength_7cf53 := ⟨awBig_tab (n := 135) (by decide +kernel) (by decide +kernel), awBig_tab (n := 136) (by decide +kernel) (by decide +kernel)⟩
theorem cn_X11_36 : Cond.instanceMethod (awM_y m_X4_init) ∈ awBig := awBig_tab (n := 65) (by decide +kernel) (by decide +kernel)
theorem cn_X11_69 : Cond.instanceMethod (awM_y m_X1_init) ∈ awBig := awBig_tab (n := 91) (by decide +kernel) (by decide +kernel)
theorem cn_X5_57 : Cond.instanceMethod (awM_y m_X10_init) ∈ awBig := awBig_tab (n := 281) (by decide +kernel) (by decide +kernel)
theorem cn_X5_65 : Cond.static (awM_y m_X11_bit) ∈ awBig := awBig_tab (n := 520) (by decide +kernel) (by decide +kernel)
theorem kl_X11_7 : Cond.classLink "AlarmTower" 7 "java/util/ArrayList" ∈ awBig := awBig_tab (n := 36) (by decide +kernel) (by decide +kernel)
theorem nw_X11_7 : awCls "AlarmTower" 7 0 := ⟨by decide, awBig_tab (n := 36) (by decide +kernel) (by decide +kernel), awBig_tab (n := 37) (by decide +kernel) (by decide +kernel), awBig_tab (n := 4) (by decide +kernel) (by decide +kernel)⟩
theorem kl_X11_34 : Cond.classLink "AlarmTower" 34 "AlarmTower$Roster" ∈ awBig := awBig_tab (n := 62) (by decide +kernel) (by decide +kernel)
theorem nw_X11_34 : awCls "AlarmTower" 34 5 := ⟨by decide, awBig_tab (n := 62) (by decide +kernel) (by decide +kernel), awBig_tab (n := 63) (by decide +kernel) (by decide +kernel), awBig_tab (n := 5) (by decide +kernel) (by decide +kernel)⟩
theorem kl_X11_67 : Cond.classLink "AlarmTower" 67 "AlarmTower$Board" ∈ awBig := awBig_tab (n := 88) (by decide +kernel) (by decide +kernel)
theorem nw_X11_67 : awCls "AlarmTower" 67 2 := ⟨by decide, awBig_tab (n := 88) (by decide +kernel) (by decide +kernel), awBig_tab (n := 89) (by decide +kernel) (by decide +kernel), awBig_tab (n := 6) (by decide +kernel) (by decide +kernel)⟩
theorem kl_X11_82 : Cond.classLink "AlarmTower" 82 "AlarmTower$Source" ∈ awBig := awBig_tab (n := 235) (by decide +kernel) (by decide +kernel)
theorem nw_X11_82 : awCls "AlarmTower" 82 9 := ⟨by decide, awBig_tab (n := 235) (by decide +kernel) (by decide +kernel), awBig_tab (n := 236) (by decide +kernel) (by decide +kernel), awBig_tab (n := 12) (by decide +kernel) (by decide +kernel)⟩
theorem kl_X11_95 : Cond.classLink "AlarmTower" 95 "AlarmTower$Rule" ∈ awBig := awBig_tab (n := 271) (by decide +kernel) (by decide +kernel)
theorem nw_X11_95 : awCls "AlarmTower" 95 6 := ⟨by decide, awBig_tab (n := 271) (by decide +kernel) (by decide +kernel), awBig_tab (n := 272) (by decide +kernel) (by decide +kernel), awBig_tab (n := 13) (by decide +kernel) (by decide +kernel)⟩
theorem kl_X11_127 : Cond.classLink "AlarmTower" 127 "AlarmTower$Silence" ∈ awBig := awBig_tab (n := 406) (by decide +kernel) (by decide +kernel)
theorem nw_X11_127 : awCls "AlarmTower" 127 8 := ⟨by decide, awBig_tab (n := 406) (by decide +kernel) (by decide +kernel), awBig_tab (n := 407) (by decide +kernel) (by decide +kernel), awBig_tab (n := 17) (by decide +kernel) (by decide +kernel)⟩
theorem kl_X11_135 : Cond.classLink "AlarmTower" 135 "AlarmTower$Shift" ∈ awBig := awBig_tab (n := 445) (by decide +kernel) (by decide +kernel)
theorem nw_X11_135 : awCls "AlarmTower" 135 7 := ⟨by decide, awBig_tab (n := 445) (by decide +kernel) (by decide +kernel), awBig_tab (n := 446) (by decide +kernel) (by decide +kernel), awBig_tab (n := 18) (by decide +kernel) (by decide +kernel)⟩
theorem kl_X11_142 : Cond.classLink "AlarmTower" 142 "AlarmTower$Swap" ∈ awBig := awBig_tab (n := 476) (by decide +kernel) (by decide +kernel)
theorem nw_X11_142 : awCls "AlarmTower" 142 10 := ⟨by decide, awBig_tab (n := 476) (by decide +kernel) (by decide +kernel), awBig_tab (n := 477) (by decide +kernel) (by decide +kernel), awBig_tab (n := 19) (by decide +kernel) (by decide +kernel)⟩
theorem kl_X11_239 : Cond.classLink "AlarmTower" 239 "AlarmTower$Alarm" ∈ awBig := awBig_tab (n := 607) (by decide +kernel) (by decide +kernel)
theorem nw_X11_239 : awCls "AlarmTower" 239 1 := ⟨by decide, awBig_tab (n := 607) (by decide +kernel) (by decide +kernel), awBig_tab (n := 608) (by decide +kernel) (by decide +kernel), awBig_tab (n := 20) (by decide +kernel) (by decide +kernel)⟩
theorem kl_X11_263 : Cond.classLink "AlarmTower" 263 "AlarmTower$Group" ∈ awBig := awBig_tab (n := 613) (by decide +kernel) (by decide +kernel)
theorem nw_X11_263 : awCls "AlarmTower" 263 3 := ⟨by decide, awBig_tab (n := 613) (by decide +kernel) (by decide +kernel), awBig_tab (n := 618) (by decide +kernel) (by decide +kernel), awBig_tab (n := 21) (by decide +kernel) (by decide +kernel)⟩
theorem kl_X11_312 : Cond.classLink "AlarmTower" 312 "AlarmTower$Letter" ∈ awBig := awBig_tab (n := 751) (by decide +kernel) (by decide +kernel)
theorem nw_X11_312 : awCls "AlarmTower" 312 4 := ⟨by decide, awBig_tab (n := 751) (by decide +kernel) (by decide +kernel), awBig_tab (n := 763) (by decide +kernel) (by decide +kernel), awBig_tab (n := 22) (by decide +kernel) (by decide +kernel)⟩
theorem kl_X11_490 : Cond.classLink "AlarmTower" 490 "java/lang/IllegalArgumentException" ∈ awBig := awBig_tab (n := 1143) (by decide +kernel) (by decide +kernel)
theorem kl_X11_501 : Cond.classLink "AlarmTower" 501 "java/lang/IllegalStateException" ∈ awBig := awBig_tab (n := 1064) (by decide +kernel) (by decide +kernel)
theorem kl_X4_15 : Cond.classLink "AlarmTower$Roster" 15 "java/util/ArrayList" ∈ awBig := awBig_tab (n := 68) (by decide +kernel) (by decide +kernel)
theorem nw_X4_15 : awCls "AlarmTower$Roster" 15 0 := ⟨by decide, awBig_tab (n := 68) (by decide +kernel) (by decide +kernel), awBig_tab (n := 37) (by decide +kernel) (by decide +kernel), awBig_tab (n := 4) (by decide +kernel) (by decide +kernel)⟩
theorem kl_X4_51 : Cond.classLink "AlarmTower$Roster" 51 "AlarmTower$Swap" ∈ awBig := awBig_tab (n := 877) (by decide +kernel) (by decide +kernel)
theorem nw_X4_51 : awCls "AlarmTower$Roster" 51 10 := ⟨by decide, awBig_tab (n := 877) (by decide +kernel) (by decide +kernel), awBig_tab (n := 477) (by decide +kernel) (by decide +kernel), awBig_tab (n := 19) (by decide +kernel) (by decide +kernel)⟩
theorem kl_X4_76 : Cond.classLink "AlarmTower$Roster" 76 "AlarmTower$Shift" ∈ awBig := awBig_tab (n := 894) (by decide +kernel) (by decide +kernel)
theorem nw_X4_76 : awCls "AlarmTower$Roster" 76 7 := ⟨by decide, awBig_tab (n := 894) (by decide +kernel) (by decide +kernel), awBig_tab (n := 446) (by decide +kernel) (by decide +kernel), awBig_tab (n := 18) (by decide +kernel) (by decide +kernel)⟩
theorem kl_X5_9 : Cond.classLink "AlarmTower$Rule" 9 "AlarmTower$Watch" ∈ awBig := awBig_tab (n := 277) (by decide +kernel) (by decide +kernel)
theorem nw_X5_9 : awCls "AlarmTower$Rule" 9 11 := ⟨by decide, awBig_tab (n := 277) (by decide +kernel) (by decide +kernel), awBig_tab (n := 279) (by decide +kernel) (by decide +kernel), awBig_tab (n := 14) (by decide +kernel) (by decide +kernel)⟩
theorem kl_L_8 : Cond.classLink "AlarmTowerLaw" 8 "AlarmTower" ∈ awBig := awBig_tab (n := 28) (by decide +kernel) (by decide +kernel)
theorem nw_L_8 : awCls "AlarmTowerLaw" 8 12 := ⟨by decide, awBig_tab (n := 28) (by decide +kernel) (by decide +kernel), awBig_tab (n := 29) (by decide +kernel) (by decide +kernel), awBig_tab (n := 1) (by decide +kernel) (by decide +kernel)⟩
theorem kl_L_13 : Cond.classLink "AlarmTowerLaw" 13 "java/lang/IllegalArgumentException" ∈ awBig := awBig_tab (n := 1137) (by decide +kernel) (by decide +kernel)
theorem kl_L_15 : Cond.classLink "AlarmTowerLaw" 15 "java/lang/IllegalStateException" ∈ awBig := awBig_tab (n := 1138) (by decide +kernel) (by decide +kernel)
theorem kl_L_18 : Cond.classLink "AlarmTowerLaw" 18 "AlarmTowerModel" ∈ awBig := awBig_tab (n := 1164) (by decide +kernel) (by decide +kernel)
theorem nw_L_18 : awCls "AlarmTowerLaw" 18 13 := ⟨by decide, awBig_tab (n := 1164) (by decide +kernel) (by decide +kernel), awBig_tab (n := 1165) (by decide +kernel) (by decide +kernel), awBig_tab (n := 11) (by decide +kernel) (by decide +kernel)⟩
theorem kl_J_7 : Cond.classLink "java/util/ArrayList" 7 "java/lang/Object" ∈ awBig := awBig_tab (n := 174) (by decide +kernel) (by decide +kernel)
theorem kl_J_Arrays_2 : Cond.classLink "java/util/Arrays" 2 "java/lang/Object" ∈ awBig := awBig_tab (n := 166) (by decide +kernel) (by decide +kernel)
theorem kl_J_Arrays_110 : Cond.classLink "java/util/Arrays" 110 "[Ljava/lang/Object;" ∈ awBig := awBig_tab (n := 164) (by decide +kernel) (by decide +kernel)
theorem kc_X11_153 : Cond.constantDouble "AlarmTower" 153 (14009883241494872064) ∈ awBig := awBig_tab (n := 509) (by decide +kernel) (by decide +kernel)
theorem kc_X11_155 : Cond.constantDouble "AlarmTower" 155 (4786511204640096256) ∈ awBig := awBig_tab (n := 510) (by decide +kernel) (by decide +kernel)
theorem kc_L_26 : Cond.constantLong "AlarmTowerLaw" 26 (4294967295) ∈ awBig := awBig_tab (n := 1692) (by decide +kernel) (by decide +kernel)
theorem kc_L_65 : Cond.constantDouble "AlarmTowerLaw" 65 (4593671619917905920) ∈ awBig := awBig_tab (n := 1693) (by decide +kernel) (by decide +kernel)
theorem kc_X12_48 : Cond.constant "AlarmTowerModel" 48 (102656) ∈ awBig := awBig_tab (n := 1170) (by decide +kernel) (by decide +kernel)
theorem kc_X12_240 : Cond.constantLong "AlarmTowerModel" 240 (9) ∈ awBig := awBig_tab (n := 1432) (by decide +kernel) (by decide +kernel)
theorem kc_X12_246 : Cond.constantLong "AlarmTowerModel" 246 (6) ∈ awBig := awBig_tab (n := 1440) (by decide +kernel) (by decide +kernel)
theorem kc_X12_248 : Cond.constantLong "AlarmTowerModel" 248 (20) ∈ awBig := awBig_tab (n := 1441) (by decide +kernel) (by decide +kernel)
theorem kc_X12_250 : Cond.constantLong "AlarmTowerModel" 250 (10) ∈ awBig := awBig_tab (n := 1442) (by decide +kernel) (by decide +kernel)
theorem kc_X12_252 : Cond.constantLong "AlarmTowerModel" 252 (5) ∈ awBig := awBig_tab (n := 1443) (by decide +kernel) (by decide +kernel)
theorem kc_X12_254 : Cond.constantLong "AlarmTowerModel" 254 (-1) ∈ awBig := awBig_tab (n := 1444) (by decide +kernel) (by decide +kernel)
theorem kc_X12_256 : Cond.constantLong "AlarmTowerModel" 256 (100) ∈ awBig := awBig_tab (n := 1445) (by decide +kernel) (by decide +kernel)
theorem kc_X12_268 : Cond.constantLong "AlarmTowerModel" 268 (2) ∈ awBig := awBig_tab (n := 1454) (by decide +kernel) (by decide +kernel)
theorem kc_X12_274 : Cond.constantLong "AlarmTowerModel" 274 (1000) ∈ awBig := awBig_tab (n := 1463) (by decide +kernel) (by decide +kernel)
theorem kc_X12_282 : Cond.constantLong "AlarmTowerModel" 282 (7) ∈ awBig := awBig_tab (n := 1472) (by decide +kernel) (by decide +kernel)
theorem kc_X12_287 : Cond.constantLong "AlarmTowerModel" 287 (50) ∈ awBig := awBig_tab (n := 1477) (by decide +kernel) (by decide +kernel)
theorem kc_X12_289 : Cond.constantLong "AlarmTowerModel" 289 (47) ∈ awBig := awBig_tab (n := 1486) (by decide +kernel) (by decide +kernel)
theorem kc_X12_291 : Cond.constantLong "AlarmTowerModel" 291 (48) ∈ awBig := awBig_tab (n := 1487) (by decide +kernel) (by decide +kernel)
theorem kc_X12_302 : Cond.constantDouble "AlarmTowerModel" 302 (14009883241494872064) ∈ awBig := awBig_tab (n := 1500) (by decide +kernel) (by decide +kernel)
theorem kc_X12_304 : Cond.constantDouble "AlarmTowerModel" 304 (4786511204640096256) ∈ awBig := awBig_tab (n := 1501) (by decide +kernel) (by decide +kernel)
theorem kc_X12_393 : Cond.constantLong "AlarmTowerModel" 393 (2000) ∈ awBig := awBig_tab (n := 1646) (by decide +kernel) (by decide +kernel)
theorem kc_X12_398 : Cond.constantLong "AlarmTowerModel" 398 (4) ∈ awBig := awBig_tab (n := 1662) (by decide +kernel) (by decide +kernel)
theorem kc_X12_400 : Cond.constantLong "AlarmTowerModel" 400 (3) ∈ awBig := awBig_tab (n := 1667) (by decide +kernel) (by decide +kernel)
theorem kc_J_ArraysSupport_200 : Cond.constant "jdk/internal/util/ArraysSupport" 200 (2147483639) ∈ awBig := awBig_tab (n := 134) (by decide +kernel) (by decide +kernel)
theorem ka_int : Cond.arrayClass .int ∈ awBig := awBig_tab (n := 87) (by decide +kernel) (by decide +kernel)
theorem ka_long : Cond.arrayClass .long ∈ awBig := awBig_tab (n := 111) (by decide +kernel) (by decide +kernel)
theorem ka_boolean : Cond.arrayClass .boolean ∈ awBig := awBig_tab (n := 259) (by decide +kernel) (by decide +kernel)
theorem ka_byte : Cond.arrayClass .byte ∈ awBig := awBig_tab (n := 1133) (by decide +kernel) (by decide +kernel)
theorem ko_1 : Cond.instanceMethod objectInit ∈ awBig := awBig_tab (n := 34) (by decide +kernel) (by decide +kernel)
theorem ko_2 : Cond.code objectInit ⟨#[0xb1]⟩ 1 none ∈ awBig := awBig_tab (n := 35) (by decide +kernel) (by decide +kernel)
theorem ki_X11_1 : Cond.methodLink "AlarmTower" 1 objectInit ∈ awBig := awBig_tab (n := 33) (by decide +kernel) (by decide +kernel)
theorem ki_X0_1 : Cond.methodLink "AlarmTower$Alarm" 1 objectInit ∈ awBig := awBig_tab (n := 653) (by decide +kernel) (by decide +kernel)
theorem ki_X1_3 : Cond.methodLink "AlarmTower$Board" 3 objectInit ∈ awBig := awBig_tab (n := 93) (by decide +kernel) (by decide +kernel)
theorem ki_X2_3 : Cond.methodLink "AlarmTower$Group" 3 objectInit ∈ awBig := awBig_tab (n := 622) (by decide +kernel) (by decide +kernel)
theorem ki_X3_3 : Cond.methodLink "AlarmTower$Letter" 3 objectInit ∈ awBig := awBig_tab (n := 806) (by decide +kernel) (by decide +kernel)
theorem ki_X4_3 : Cond.methodLink "AlarmTower$Roster" 3 objectInit ∈ awBig := awBig_tab (n := 67) (by decide +kernel) (by decide +kernel)
theorem ki_X5_3 : Cond.methodLink "AlarmTower$Rule" 3 objectInit ∈ awBig := awBig_tab (n := 276) (by decide +kernel) (by decide +kernel)
theorem ki_X6_3 : Cond.methodLink "AlarmTower$Shift" 3 objectInit ∈ awBig := awBig_tab (n := 450) (by decide +kernel) (by decide +kernel)
theorem ki_X7_1 : Cond.methodLink "AlarmTower$Silence" 1 objectInit ∈ awBig := awBig_tab (n := 411) (by decide +kernel) (by decide +kernel)
theorem ki_X8_3 : Cond.methodLink "AlarmTower$Source" 3 objectInit ∈ awBig := awBig_tab (n := 240) (by decide +kernel) (by decide +kernel)
theorem ki_X9_1 : Cond.methodLink "AlarmTower$Swap" 1 objectInit ∈ awBig := awBig_tab (n := 481) (by decide +kernel) (by decide +kernel)
theorem ki_X10_3 : Cond.methodLink "AlarmTower$Watch" 3 objectInit ∈ awBig := awBig_tab (n := 283) (by decide +kernel) (by decide +kernel)
theorem ki_X12_1 : Cond.methodLink "AlarmTowerModel" 1 objectInit ∈ awBig := awBig_tab (n := 1169) (by decide +kernel) (by decide +kernel)
theorem ki_J_Throwable_1 : Cond.methodLink "java/lang/Throwable" 1 objectInit ∈ awBig := awBig_tab (n := 1092) (by decide +kernel) (by decide +kernel)
theorem ki_J_AbstractCollection_1 : Cond.methodLink "java/util/AbstractCollection" 1 objectInit ∈ awBig := awBig_tab (n := 47) (by decide +kernel) (by decide +kernel)
theorem kp_X11_515 : awAcp "AlarmTower" 515 := ⟨awBig_tab (n := 1047) (by decide +kernel) (by decide +kernel), awBig_tab (n := 172) (by decide +kernel) (by decide +kernel), awBig_tab (n := 171) (by decide +kernel) (by decide +kernel), awBig_tab (n := 10) (by decide +kernel) (by decide +kernel)⟩
theorem kp_J_Arrays_150 : awAcp "java/util/Arrays" 150 := ⟨awBig_tab (n := 170) (by decide +kernel) (by decide +kernel), awBig_tab (n := 172) (by decide +kernel) (by decide +kernel), awBig_tab (n := 171) (by decide +kernel) (by decide +kernel), awBig_tab (n := 10) (by decide +kernel) (by decide +kernel)⟩
theorem kg_1 : Cond.methodLink "java/util/Arrays" 86 ⟨"java/lang/Object", "getClass", "()Ljava/lang/Class;"⟩ ∈ awBig := awBig_tab (n := 141) (by decide +kernel) (by decide +kernel)
theorem kg_2 : Cond.selects "[Ljava/lang/Object;" ⟨"java/lang/Object", "getClass", "()Ljava/lang/Class;"⟩ ⟨"java/lang/Object", "getClass", "()Ljava/lang/Class;"⟩ ∈ awBig := awBig_tab (n := 1714) (by decide +kernel) (by decide +kernel)
theorem kg_3 : Cond.instanceMethod ⟨"java/lang/Object", "getClass", "()Ljava/lang/Class;"⟩ ∈ awBig := awBig_tab (n := 142) (by decide +kernel) (by decide +kernel)
theorem kg_4 : Cond.native ⟨"java/lang/Object", "getClass", "()Ljava/lang/Class;"⟩ ∈ awBig := awBig_tab (n := 160) (by decide +kernel) (by decide +kernel)
theorem ke_1 : Cond.fieldLink "java/util/ArrayList" 39 "java/util/ArrayList" "DEFAULTCAPACITY_EMPTY_ELEMENTDATA" "[Ljava/lang/Object;" ∈ awBig := awBig_tab (n := 48) (by decide +kernel) (by decide +kernel)
