theorem cv_X12_321 : awCV "AlarmTowerModel" 321 m_X12_both := ⟨awBig_tab (n := 1531) (by decide +kernel) (by decide +kernel), awBig_tab (n := 1533) (by decide +kernel) (by decide +kernel), awBig_sel (n := 49) (by decide +kernel) (by decide +kernel)⟩
theorem cv_X12_325 : awCV "AlarmTowerModel" 325 m_X12_isPart := ⟨awBig_tab (n := 1535) (by decide +kernel) (by decide +kernel), awBig_tab (n := 1537) (by decide +kernel) (by decide +kernel), awBig_sel (n := 50) (by decide +kernel) (by decide +kernel)⟩
theorem cv_X12_329 : awCV "AlarmTowerModel" 329 m_X12_odd := ⟨awBig_tab (n := 1539) (by decide +kernel) (by decide +kernel), awBig_tab (n := 1541) (by decide +kernel) (by decide +kernel), awBig_sel (n := 51) (by decide +kernel) (by decide +kernel)⟩
theorem cv_X12_336 : awCV "AlarmTowerModel" 336 m_X12_groupOf := ⟨awBig_tab (n := 1551) (by decide +kernel) (by decide +kernel), awBig_tab (n := 1553) (by decide +kernel) (by decide +kernel), awBig_sel (n := 54) (by decide +kernel) (by decide +kernel)⟩
theorem cv_X12_339 : awCV "AlarmTowerModel" 339 m_X12_found := ⟨awBig_tab (n := 1515) (by decide +kernel) (by decide +kernel), awBig_tab (n := 1517) (by decide +kernel) (by decide +kernel), awBig_sel (n := 45) (by decide +kernel) (by decide +kernel)⟩
theorem cv_X12_342 : awCV "AlarmTowerModel" 342 m_X12_begin := ⟨awBig_tab (n := 1547) (by decide +kernel) (by decide +kernel), awBig_tab (n := 1549) (by decide +kernel) (by decide +kernel), awBig_sel (n := 53) (by decide +kernel) (by decide +kernel)⟩
theorem cv_X12_346 : awCV "AlarmTowerModel" 346 m_X12_held := ⟨awBig_tab (n := 1559) (by decide +kernel) (by decide +kernel), awBig_tab (n := 1561) (by decide +kernel) (by decide +kernel), awBig_sel (n := 56) (by decide +kernel) (by decide +kernel)⟩
theorem cv_X12_349 : awCV "AlarmTowerModel" 349 m_X12_silenced := ⟨awBig_tab (n := 1563) (by decide +kernel) (by decide +kernel), awBig_tab (n := 1565) (by decide +kernel) (by decide +kernel), awBig_sel (n := 57) (by decide +kernel) (by decide +kernel)⟩
theorem cv_X12_352 : awCV "AlarmTowerModel" 352 m_X12_place := ⟨awBig_tab (n := 1587) (by decide +kernel) (by decide +kernel), awBig_tab (n := 1589) (by decide +kernel) (by decide +kernel), awBig_sel (n := 63) (by decide +kernel) (by decide +kernel)⟩
theorem cv_X12_359 : awCV "AlarmTowerModel" 359 m_X12_stepOf := ⟨awBig_tab (n := 1591) (by decide +kernel) (by decide +kernel), awBig_tab (n := 1593) (by decide +kernel) (by decide +kernel), awBig_sel (n := 64) (by decide +kernel) (by decide +kernel)⟩
theorem cv_X12_365 : awCV "AlarmTowerModel" 365 m_X12_write := ⟨awBig_tab (n := 1579) (by decide +kernel) (by decide +kernel), awBig_tab (n := 1581) (by decide +kernel) (by decide +kernel), awBig_sel (n := 61) (by decide +kernel) (by decide +kernel)⟩
theorem cv_X12_369 : awCV "AlarmTowerModel" 369 m_X12_wake := ⟨awBig_tab (n := 1583) (by decide +kernel) (by decide +kernel), awBig_tab (n := 1585) (by decide +kernel) (by decide +kernel), awBig_sel (n := 62) (by decide +kernel) (by decide +kernel)⟩
theorem cv_X12_372 : awCV "AlarmTowerModel" 372 m_X12_judge := ⟨awBig_tab (n := 1511) (by decide +kernel) (by decide +kernel), awBig_tab (n := 1513) (by decide +kernel) (by decide +kernel), awBig_sel (n := 44) (by decide +kernel) (by decide +kernel)⟩
theorem cv_X12_375 : awCV "AlarmTowerModel" 375 m_X12_clearAll := ⟨awBig_tab (n := 1555) (by decide +kernel) (by decide +kernel), awBig_tab (n := 1557) (by decide +kernel) (by decide +kernel), awBig_sel (n := 55) (by decide +kernel) (by decide +kernel)⟩
theorem cv_X12_378 : awCV "AlarmTowerModel" 378 m_X12_goUp := ⟨awBig_tab (n := 1567) (by decide +kernel) (by decide +kernel), awBig_tab (n := 1569) (by decide +kernel) (by decide +kernel), awBig_sel (n := 58) (by decide +kernel) (by decide +kernel)⟩
theorem cv_X12_381 : awCV "AlarmTowerModel" 381 m_X12_reason := ⟨awBig_tab (n := 1571) (by decide +kernel) (by decide +kernel), awBig_tab (n := 1573) (by decide +kernel) (by decide +kernel), awBig_sel (n := 59) (by decide +kernel) (by decide +kernel)⟩
theorem cv_X12_384 : awCV "AlarmTowerModel" 384 m_X12_send := ⟨awBig_tab (n := 1575) (by decide +kernel) (by decide +kernel), awBig_tab (n := 1577) (by decide +kernel) (by decide +kernel), awBig_sel (n := 60) (by decide +kernel) (by decide +kernel)⟩
theorem cv_X12_387 : awCV "AlarmTowerModel" 387 m_X12_isLetter := ⟨awBig_tab (n := 1611) (by decide +kernel) (by decide +kernel), awBig_tab (n := 1613) (by decide +kernel) (by decide +kernel), awBig_sel (n := 65) (by decide +kernel) (by decide +kernel)⟩
theorem cv_X12_390 : awCV "AlarmTowerModel" 390 m_X12_wentTo := ⟨awBig_tab (n := 1635) (by decide +kernel) (by decide +kernel), awBig_tab (n := 1637) (by decide +kernel) (by decide +kernel), awBig_sel (n := 66) (by decide +kernel) (by decide +kernel)⟩
theorem cs_X12_395 : awCS "AlarmTowerModel" 395 m_X12_isBoard := ⟨awBig_tab (n := 1660) (by decide +kernel) (by decide +kernel), awBig_tab (n := 1661) (by decide +kernel) (by decide +kernel)⟩
theorem cv_X12_402 : awCV "AlarmTowerModel" 402 m_X12_hasPlaces := ⟨awBig_tab (n := 1677) (by decide +kernel) (by decide +kernel), awBig_tab (n := 1679) (by decide +kernel) (by decide +kernel), awBig_sel (n := 67) (by decide +kernel) (by decide +kernel)⟩
theorem cv_X12_406 : awCV "AlarmTowerModel" 406 m_X12_denied := ⟨awBig_tab (n := 1685) (by decide +kernel) (by decide +kernel), awBig_tab (n := 1687) (by decide +kernel) (by decide +kernel), awBig_sel (n := 68) (by decide +kernel) (by decide +kernel)⟩
theorem ci_J_AbstractList_1 : awCI "java/util/AbstractList" 1 m_Jxa1e45_init_da8c8 := ⟨awBig_tab (n := 44) (by decide +kernel) (by decide +kernel), awBig_tab (n := 45) (by decide +kernel) (by decide +kernel)⟩
theorem ci_J_1 : awCI "java/util/ArrayList" 1 m_Jxc12de_init_da8c8 := ⟨awBig_tab (n := 41) (by decide +kernel) (by decide +kernel), awBig_tab (n := 42) (by decide +kernel) (by decide +kernel)⟩
theorem cs_J_66 : awCS "java/util/ArrayList" 66 m_J7_copyOf_1904c := ⟨awBig_tab (n := 224) (by decide +kernel) (by decide +kernel), awBig_tab (n := 225) (by decide +kernel) (by decide +kernel)⟩
theorem cv_J_69 : awCV "java/util/ArrayList" 69 m_Jx4a65c_grow_92f84 := ⟨awBig_tab (n := 210) (by decide +kernel) (by decide +kernel), awBig_tab (n := 212) (by decide +kernel) (by decide +kernel), awBig_sel (n := 2) (by decide +kernel) (by decide +kernel)⟩
theorem cs_J_73 : awCS "java/util/ArrayList" 73 m_J8_newLength_cabcc := ⟨awBig_tab (n := 214) (by decide +kernel) (by decide +kernel), awBig_tab (n := 215) (by decide +kernel) (by decide +kernel)⟩
theorem cs_J_79 : awCS "java/util/ArrayList" 79 m_J9_max_7cf53 := ⟨awBig_tab (n := 259) (by decide +kernel) (by decide +kernel), awBig_tab (n := 218) (by decide +kernel) (by decide +kernel)⟩
theorem cs_J_118 : awCS "java/util/ArrayList" 118 m_J15_checkIndex_7cf53 := ⟨awBig_tab (n := 374) (by decide +kernel) (by decide +kernel), awBig_tab (n := 375) (by decide +kernel) (by decide +kernel)⟩
theorem cv_J_123 : awCV "java/util/ArrayList" 123 m_Jx4a65c_elementData_915e3 := ⟨awBig_tab (n := 380) (by decide +kernel) (by decide +kernel), awBig_tab (n := 381) (by decide +kernel) (by decide +kernel), awBig_tab (n := 382) (by decide +kernel) (by decide +kernel)⟩
theorem cv_J_129 : awCV "java/util/ArrayList" 129 m_Jx4a65c_grow_d5877 := ⟨awBig_tab (n := 206) (by decide +kernel) (by decide +kernel), awBig_tab (n := 208) (by decide +kernel) (by decide +kernel), awBig_sel (n := 1) (by decide +kernel) (by decide +kernel)⟩
theorem cv_J_131 : awCV "java/util/ArrayList" 131 m_Jx4a65c_add_72be8 := ⟨awBig_tab (n := 202) (by decide +kernel) (by decide +kernel), awBig_tab (n := 204) (by decide +kernel) (by decide +kernel), awBig_sel (n := 0) (by decide +kernel) (by decide +kernel)⟩
theorem cs_J_Arrays_300 : awCS "java/util/Arrays" 300 m_J7_copyOf_6403c := ⟨awBig_tab (n := 247) (by decide +kernel) (by decide +kernel), awBig_tab (n := 248) (by decide +kernel) (by decide +kernel)⟩
theorem cs_J_Arrays_304 : awCS "java/util/Arrays" 304 m_J9_min_7cf53 := ⟨awBig_tab (n := 253) (by decide +kernel) (by decide +kernel), awBig_tab (n := 254) (by decide +kernel) (by decide +kernel)⟩
theorem cs_J_Objects_105 : awCS "java/util/Objects" 105 m_J3_checkIndex_8e157 := ⟨awBig_tab (n := 377) (by decide +kernel) (by decide +kernel), awBig_tab (n := 378) (by decide +kernel) (by decide +kernel)⟩
theorem cs_J_ArraysSupport_194 : awCS "jdk/internal/util/ArraysSupport" 194 m_J9_max_7cf53 := ⟨awBig_tab (n := 217) (by decide +kernel) (by decide +kernel), awBig_tab (n := 218) (by decide +kernel) (by decide +kernel)⟩
theorem cs_J_ArraysSupport_201 : awCS "jdk/internal/util/ArraysSupport" 201 m_J8_hugeLength_7cf53 := ⟨awBig_tab (n := 221) (by decide +kernel) (by decide +kernel), awBig_tab (n := 222) (by decide +kernel) (by decide +kernel)⟩
theorem cn_X11_39 : Cond.instanceMethod (awM_y m_X4_init) ∈ awBig := awBig_tab (n := 67) (by decide +kernel) (by decide +kernel)
theorem cn_X11_70 : Cond.instanceMethod (awM_y m_X1_init) ∈ awBig := awBig_tab (n := 92) (by decide +kernel) (by decide +kernel)
theorem cn_X5_57 : Cond.instanceMethod (awM_y m_X10_init) ∈ awBig := awBig_tab (n := 282) (by decide +kernel) (by decide +kernel)
theorem cn_X5_65 : Cond.static (awM_y m_X11_bit) ∈ awBig := awBig_tab (n := 521) (by decide +kernel) (by decide +kernel)
theorem kl_X11_7 : Cond.classLink "AlarmTower" 7 "java/util/ArrayList" ∈ awBig := awBig_tab (n := 36) (by decide +kernel) (by decide +kernel)
theorem nw_X11_7 : awCls "AlarmTower" 7 0 := ⟨by decide, awBig_tab (n := 36) (by decide +kernel) (by decide +kernel), awBig_tab (n := 37) (by decide +kernel) (by decide +kernel), awBig_tab (n := 4) (by decide +kernel) (by decide +kernel)⟩
theorem kl_X11_31 : Cond.classLink "AlarmTower" 31 "AlarmTower$Board" ∈ awBig := awBig_tab (n := 62) (by decide +kernel) (by decide +kernel)
theorem nw_X11_31 : awCls "AlarmTower" 31 2 := ⟨by decide, awBig_tab (n := 62) (by decide +kernel) (by decide +kernel), awBig_tab (n := 90) (by decide +kernel) (by decide +kernel), awBig_tab (n := 6) (by decide +kernel) (by decide +kernel)⟩
theorem kl_X11_37 : Cond.classLink "AlarmTower" 37 "AlarmTower$Roster" ∈ awBig := awBig_tab (n := 64) (by decide +kernel) (by decide +kernel)
theorem nw_X11_37 : awCls "AlarmTower" 37 5 := ⟨by decide, awBig_tab (n := 64) (by decide +kernel) (by decide +kernel), awBig_tab (n := 65) (by decide +kernel) (by decide +kernel), awBig_tab (n := 5) (by decide +kernel) (by decide +kernel)⟩
theorem kl_X11_79 : Cond.classLink "AlarmTower" 79 "AlarmTower$Source" ∈ awBig := awBig_tab (n := 173) (by decide +kernel) (by decide +kernel)
theorem nw_X11_79 : awCls "AlarmTower" 79 9 := ⟨by decide, awBig_tab (n := 173) (by decide +kernel) (by decide +kernel), awBig_tab (n := 174) (by decide +kernel) (by decide +kernel), awBig_tab (n := 8) (by decide +kernel) (by decide +kernel)⟩
theorem kl_X11_96 : Cond.classLink "AlarmTower" 96 "AlarmTower$Rule" ∈ awBig := awBig_tab (n := 272) (by decide +kernel) (by decide +kernel)
theorem nw_X11_96 : awCls "AlarmTower" 96 6 := ⟨by decide, awBig_tab (n := 272) (by decide +kernel) (by decide +kernel), awBig_tab (n := 273) (by decide +kernel) (by decide +kernel), awBig_tab (n := 13) (by decide +kernel) (by decide +kernel)⟩
theorem kl_X11_128 : Cond.classLink "AlarmTower" 128 "AlarmTower$Silence" ∈ awBig := awBig_tab (n := 407) (by decide +kernel) (by decide +kernel)
theorem nw_X11_128 : awCls "AlarmTower" 128 8 := ⟨by decide, awBig_tab (n := 407) (by decide +kernel) (by decide +kernel), awBig_tab (n := 408) (by decide +kernel) (by decide +kernel), awBig_tab (n := 17) (by decide +kernel) (by decide +kernel)⟩
theorem kl_X11_136 : Cond.classLink "AlarmTower" 136 "AlarmTower$Shift" ∈ awBig := awBig_tab (n := 446) (by decide +kernel) (by decide +kernel)
theorem nw_X11_136 : awCls "AlarmTower" 136 7 := ⟨by decide, awBig_tab (n := 446) (by decide +kernel) (by decide +kernel), awBig_tab (n := 447) (by decide +kernel) (by decide +kernel), awBig_tab (n := 18) (by decide +kernel) (by decide +kernel)⟩
theorem kl_X11_143 : Cond.classLink "AlarmTower" 143 "AlarmTower$Swap" ∈ awBig := awBig_tab (n := 477) (by decide +kernel) (by decide +kernel)
theorem nw_X11_143 : awCls "AlarmTower" 143 10 := ⟨by decide, awBig_tab (n := 477) (by decide +kernel) (by decide +kernel), awBig_tab (n := 478) (by decide +kernel) (by decide +kernel), awBig_tab (n := 19) (by decide +kernel) (by decide +kernel)⟩
theorem kl_X11_240 : Cond.classLink "AlarmTower" 240 "AlarmTower$Alarm" ∈ awBig := awBig_tab (n := 608) (by decide +kernel) (by decide +kernel)
theorem nw_X11_240 : awCls "AlarmTower" 240 1 := ⟨by decide, awBig_tab (n := 608) (by decide +kernel) (by decide +kernel), awBig_tab (n := 609) (by decide +kernel) (by decide +kernel), awBig_tab (n := 20) (by decide +kernel) (by decide +kernel)⟩
theorem kl_X11_264 : Cond.classLink "AlarmTower" 264 "AlarmTower$Group" ∈ awBig := awBig_tab (n := 614) (by decide +kernel) (by decide +kernel)
theorem nw_X11_264 : awCls "AlarmTower" 264 3 := ⟨by decide, awBig_tab (n := 614) (by decide +kernel) (by decide +kernel), awBig_tab (n := 619) (by decide +kernel) (by decide +kernel), awBig_tab (n := 21) (by decide +kernel) (by decide +kernel)⟩
theorem kl_X11_313 : Cond.classLink "AlarmTower" 313 "AlarmTower$Letter" ∈ awBig := awBig_tab (n := 752) (by decide +kernel) (by decide +kernel)
theorem nw_X11_313 : awCls "AlarmTower" 313 4 := ⟨by decide, awBig_tab (n := 752) (by decide +kernel) (by decide +kernel), awBig_tab (n := 764) (by decide +kernel) (by decide +kernel), awBig_tab (n := 22) (by decide +kernel) (by decide +kernel)⟩
theorem kl_X11_491 : Cond.classLink "AlarmTower" 491 "java/lang/IllegalArgumentException" ∈ awBig := awBig_tab (n := 1144) (by decide +kernel) (by decide +kernel)
theorem kl_X11_502 : Cond.classLink "AlarmTower" 502 "java/lang/IllegalStateException" ∈ awBig := awBig_tab (n := 1065) (by decide +kernel) (by decide +kernel)
theorem kl_X4_15 : Cond.classLink "AlarmTower$Roster" 15 "java/util/ArrayList" ∈ awBig := awBig_tab (n := 70) (by decide +kernel) (by decide +kernel)
theorem nw_X4_15 : awCls "AlarmTower$Roster" 15 0 := ⟨by decide, awBig_tab (n := 70) (by decide +kernel) (by decide +kernel), awBig_tab (n := 37) (by decide +kernel) (by decide +kernel), awBig_tab (n := 4) (by decide +kernel) (by decide +kernel)⟩
theorem kl_X4_51 : Cond.classLink "AlarmTower$Roster" 51 "AlarmTower$Swap" ∈ awBig := awBig_tab (n := 878) (by decide +kernel) (by decide +kernel)
theorem nw_X4_51 : awCls "AlarmTower$Roster" 51 10 := ⟨by decide, awBig_tab (n := 878) (by decide +kernel) (by decide +kernel), awBig_tab (n := 478) (by decide +kernel) (by decide +kernel), awBig_tab (n := 19) (by decide +kernel) (by decide +kernel)⟩
theorem kl_X4_76 : Cond.classLink "AlarmTower$Roster" 76 "AlarmTower$Shift" ∈ awBig := awBig_tab (n := 895) (by decide +kernel) (by decide +kernel)
theorem nw_X4_76 : awCls "AlarmTower$Roster" 76 7 := ⟨by decide, awBig_tab (n := 895) (by decide +kernel) (by decide +kernel), awBig_tab (n := 447) (by decide +kernel) (by decide +kernel), awBig_tab (n := 18) (by decide +kernel) (by decide +kernel)⟩
theorem kl_X5_9 : Cond.classLink "AlarmTower$Rule" 9 "AlarmTower$Watch" ∈ awBig := awBig_tab (n := 278) (by decide +kernel) (by decide +kernel)
theorem nw_X5_9 : awCls "AlarmTower$Rule" 9 11 := ⟨by decide, awBig_tab (n := 278) (by decide +kernel) (by decide +kernel), awBig_tab (n := 280) (by decide +kernel) (by decide +kernel), awBig_tab (n := 14) (by decide +kernel) (by decide +kernel)⟩
theorem kl_L_8 : Cond.classLink "AlarmTowerLaw" 8 "AlarmTower" ∈ awBig := awBig_tab (n := 28) (by decide +kernel) (by decide +kernel)
theorem nw_L_8 : awCls "AlarmTowerLaw" 8 12 := ⟨by decide, awBig_tab (n := 28) (by decide +kernel) (by decide +kernel), awBig_tab (n := 29) (by decide +kernel) (by decide +kernel), awBig_tab (n := 1) (by decide +kernel) (by decide +kernel)⟩
theorem kl_L_13 : Cond.classLink "AlarmTowerLaw" 13 "java/lang/IllegalArgumentException" ∈ awBig := awBig_tab (n := 1138) (by decide +kernel) (by decide +kernel)
theorem kl_L_15 : Cond.classLink "AlarmTowerLaw" 15 "java/lang/IllegalStateException" ∈ awBig := awBig_tab (n := 1139) (by decide +kernel) (by decide +kernel)
theorem kl_L_18 : Cond.classLink "AlarmTowerLaw" 18 "AlarmTowerModel" ∈ awBig := awBig_tab (n := 1165) (by decide +kernel) (by decide +kernel)
theorem nw_L_18 : awCls "AlarmTowerLaw" 18 13 := ⟨by decide, awBig_tab (n := 1165) (by decide +kernel) (by decide +kernel), awBig_tab (n := 1166) (by decide +kernel) (by decide +kernel), awBig_tab (n := 7) (by decide +kernel) (by decide +kernel)⟩
theorem kl_J_7 : Cond.classLink "java/util/ArrayList" 7 "java/lang/Object" ∈ awBig := awBig_tab (n := 260) (by decide +kernel) (by decide +kernel)
theorem kl_J_Arrays_2 : Cond.classLink "java/util/Arrays" 2 "java/lang/Object" ∈ awBig := awBig_tab (n := 252) (by decide +kernel) (by decide +kernel)
theorem kl_J_Arrays_110 : Cond.classLink "java/util/Arrays" 110 "[Ljava/lang/Object;" ∈ awBig := awBig_tab (n := 250) (by decide +kernel) (by decide +kernel)
theorem kc_X11_154 : Cond.constantDouble "AlarmTower" 154 (14009883241494872064) ∈ awBig := awBig_tab (n := 510) (by decide +kernel) (by decide +kernel)
theorem kc_X11_156 : Cond.constantDouble "AlarmTower" 156 (4786511204640096256) ∈ awBig := awBig_tab (n := 511) (by decide +kernel) (by decide +kernel)
theorem kc_L_26 : Cond.constantLong "AlarmTowerLaw" 26 (4294967295) ∈ awBig := awBig_tab (n := 1693) (by decide +kernel) (by decide +kernel)
theorem kc_L_65 : Cond.constantDouble "AlarmTowerLaw" 65 (4593671619917905920) ∈ awBig := awBig_tab (n := 1694) (by decide +kernel) (by decide +kernel)
theorem kc_X12_48 : Cond.constant "AlarmTowerModel" 48 (102656) ∈ awBig := awBig_tab (n := 1171) (by decide +kernel) (by decide +kernel)
theorem kc_X12_240 : Cond.constantLong "AlarmTowerModel" 240 (9) ∈ awBig := awBig_tab (n := 1433) (by decide +kernel) (by decide +kernel)
theorem kc_X12_246 : Cond.constantLong "AlarmTowerModel" 246 (6) ∈ awBig := awBig_tab (n := 1441) (by decide +kernel) (by decide +kernel)
theorem kc_X12_248 : Cond.constantLong "AlarmTowerModel" 248 (20) ∈ awBig := awBig_tab (n := 1442) (by decide +kernel) (by decide +kernel)
theorem kc_X12_250 : Cond.constantLong "AlarmTowerModel" 250 (10) ∈ awBig := awBig_tab (n := 1443) (by decide +kernel) (by decide +kernel)
theorem kc_X12_252 : Cond.constantLong "AlarmTowerModel" 252 (5) ∈ awBig := awBig_tab (n := 1444) (by decide +kernel) (by decide +kernel)
theorem kc_X12_254 : Cond.constantLong "AlarmTowerModel" 254 (-1) ∈ awBig := awBig_tab (n := 1445) (by decide +kernel) (by decide +kernel)
theorem kc_X12_256 : Cond.constantLong "AlarmTowerModel" 256 (100) ∈ awBig := awBig_tab (n := 1446) (by decide +kernel) (by decide +kernel)
theorem kc_X12_268 : Cond.constantLong "AlarmTowerModel" 268 (2) ∈ awBig := awBig_tab (n := 1455) (by decide +kernel) (by decide +kernel)
theorem kc_X12_274 : Cond.constantLong "AlarmTowerModel" 274 (1000) ∈ awBig := awBig_tab (n := 1464) (by decide +kernel) (by decide +kernel)
theorem kc_X12_282 : Cond.constantLong "AlarmTowerModel" 282 (7) ∈ awBig := awBig_tab (n := 1473) (by decide +kernel) (by decide +kernel)
theorem kc_X12_287 : Cond.constantLong "AlarmTowerModel" 287 (50) ∈ awBig := awBig_tab (n := 1478) (by decide +kernel) (by decide +kernel)
theorem kc_X12_289 : Cond.constantLong "AlarmTowerModel" 289 (47) ∈ awBig := awBig_tab (n := 1487) (by decide +kernel) (by decide +kernel)
theorem kc_X12_291 : Cond.constantLong "AlarmTowerModel" 291 (48) ∈ awBig := awBig_tab (n := 1488) (by decide +kernel) (by decide +kernel)
theorem kc_X12_302 : Cond.constantDouble "AlarmTowerModel" 302 (14009883241494872064) ∈ awBig := awBig_tab (n := 1501) (by decide +kernel) (by decide +kernel)
theorem kc_X12_304 : Cond.constantDouble "AlarmTowerModel" 304 (4786511204640096256) ∈ awBig := awBig_tab (n := 1502) (by decide +kernel) (by decide +kernel)
theorem kc_X12_393 : Cond.constantLong "AlarmTowerModel" 393 (2000) ∈ awBig := awBig_tab (n := 1647) (by decide +kernel) (by decide +kernel)
theorem kc_X12_398 : Cond.constantLong "AlarmTowerModel" 398 (4) ∈ awBig := awBig_tab (n := 1663) (by decide +kernel) (by decide +kernel)
theorem kc_X12_400 : Cond.constantLong "AlarmTowerModel" 400 (3) ∈ awBig := awBig_tab (n := 1668) (by decide +kernel) (by decide +kernel)
theorem kc_J_ArraysSupport_200 : Cond.constant "jdk/internal/util/ArraysSupport" 200 (2147483639) ∈ awBig := awBig_tab (n := 220) (by decide +kernel) (by decide +kernel)
theorem ka_int : Cond.arrayClass .int ∈ awBig := awBig_tab (n := 89) (by decide +kernel) (by decide +kernel)
theorem ka_long : Cond.arrayClass .long ∈ awBig := awBig_tab (n := 112) (by decide +kernel) (by decide +kernel)
theorem ka_boolean : Cond.arrayClass .boolean ∈ awBig := awBig_tab (n := 197) (by decide +kernel) (by decide +kernel)
theorem ka_byte : Cond.arrayClass .byte ∈ awBig := awBig_tab (n := 1134) (by decide +kernel) (by decide +kernel)
theorem ko_1 : Cond.instanceMethod objectInit ∈ awBig := awBig_tab (n := 34) (by decide +kernel) (by decide +kernel)
theorem ko_2 : Cond.code objectInit ⟨#[0xb1]⟩ 1 none ∈ awBig := awBig_tab (n := 35) (by decide +kernel) (by decide +kernel)
theorem ki_X11_1 : Cond.methodLink "AlarmTower" 1 objectInit ∈ awBig := awBig_tab (n := 33) (by decide +kernel) (by decide +kernel)
theorem ki_X0_1 : Cond.methodLink "AlarmTower$Alarm" 1 objectInit ∈ awBig := awBig_tab (n := 654) (by decide +kernel) (by decide +kernel)
theorem ki_X1_3 : Cond.methodLink "AlarmTower$Board" 3 objectInit ∈ awBig := awBig_tab (n := 94) (by decide +kernel) (by decide +kernel)
theorem ki_X2_3 : Cond.methodLink "AlarmTower$Group" 3 objectInit ∈ awBig := awBig_tab (n := 623) (by decide +kernel) (by decide +kernel)
theorem ki_X3_3 : Cond.methodLink "AlarmTower$Letter" 3 objectInit ∈ awBig := awBig_tab (n := 807) (by decide +kernel) (by decide +kernel)
theorem ki_X4_3 : Cond.methodLink "AlarmTower$Roster" 3 objectInit ∈ awBig := awBig_tab (n := 69) (by decide +kernel) (by decide +kernel)
theorem ki_X5_3 : Cond.methodLink "AlarmTower$Rule" 3 objectInit ∈ awBig := awBig_tab (n := 277) (by decide +kernel) (by decide +kernel)
theorem ki_X6_3 : Cond.methodLink "AlarmTower$Shift" 3 objectInit ∈ awBig := awBig_tab (n := 451) (by decide +kernel) (by decide +kernel)
theorem ki_X7_1 : Cond.methodLink "AlarmTower$Silence" 1 objectInit ∈ awBig := awBig_tab (n := 412) (by decide +kernel) (by decide +kernel)
theorem ki_X8_3 : Cond.methodLink "AlarmTower$Source" 3 objectInit ∈ awBig := awBig_tab (n := 178) (by decide +kernel) (by decide +kernel)
theorem ki_X9_1 : Cond.methodLink "AlarmTower$Swap" 1 objectInit ∈ awBig := awBig_tab (n := 482) (by decide +kernel) (by decide +kernel)
theorem ki_X10_3 : Cond.methodLink "AlarmTower$Watch" 3 objectInit ∈ awBig := awBig_tab (n := 284) (by decide +kernel) (by decide +kernel)
theorem ki_X12_1 : Cond.methodLink "AlarmTowerModel" 1 objectInit ∈ awBig := awBig_tab (n := 1170) (by decide +kernel) (by decide +kernel)
theorem ki_J_Throwable_1 : Cond.methodLink "java/lang/Throwable" 1 objectInit ∈ awBig := awBig_tab (n := 1093) (by decide +kernel) (by decide +kernel)
theorem ki_J_AbstractCollection_1 : Cond.methodLink "java/util/AbstractCollection" 1 objectInit ∈ awBig := awBig_tab (n := 47) (by decide +kernel) (by decide +kernel)
theorem kp_X11_516 : awAcp "AlarmTower" 516 := ⟨awBig_tab (n := 1048) (by decide +kernel) (by decide +kernel), awBig_tab (n := 258) (by decide +kernel) (by decide +kernel), awBig_tab (n := 257) (by decide +kernel) (by decide +kernel), awBig_tab (n := 12) (by decide +kernel) (by decide +kernel)⟩
theorem kp_J_Arrays_150 : awAcp "java/util/Arrays" 150 := ⟨awBig_tab (n := 256) (by decide +kernel) (by decide +kernel), awBig_tab (n := 258) (by decide +kernel) (by decide +kernel), awBig_tab (n := 257) (by decide +kernel) (by decide +kernel), awBig_tab (n := 12) (by decide +kernel) (by decide +kernel)⟩
theorem kg_1 : Cond.methodLink "java/util/Arrays" 86 ⟨"java/lang/Object", "getClass", "()Ljava/lang/Class;"⟩ ∈ awBig := awBig_tab (n := 227) (by decide +kernel) (by decide +kernel)
theorem kg_2 : Cond.selects "[Ljava/lang/Object;" ⟨"java/lang/Object", "getClass", "()Ljava/lang/Class;"⟩ ⟨"java/lang/Object", "getClass", "()Ljava/lang/Class;"⟩ ∈ awBig := awBig_tab (n := 1715) (by decide +kernel) (by decide +kernel)
theorem kg_3 : Cond.instanceMethod ⟨"java/lang/Object", "getClass", "()Ljava/lang/Class;"⟩ ∈ awBig := awBig_tab (n := 228) (by decide +kernel) (by decide +kernel)
theorem kg_4 : Cond.native ⟨"java/lang/Object", "getClass", "()Ljava/lang/Class;"⟩ ∈ awBig := awBig_tab (n := 246) (by decide +kernel) (by decide +kernel)
theorem ke_1 : Cond.fieldLink "java/util/ArrayList" 39 "java/util/ArrayList" "DEFAULTCAPACITY_EMPTY_ELEMENTDATA" "[Ljava/lang/Object;" ∈ awBig := awBig_tab (n := 48) (by decide +kernel) (by decide +kernel)
