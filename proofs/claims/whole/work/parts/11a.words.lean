-- the words of the tables that the rules use
theorem ws_Jx4a65c : ∀ w ∈ u_ws RJx4a65c TJx4a65c 3, w ∈ awBig := by
  refine List.forall_mem_map.mpr ?_
  intro k hk
  have hk := List.mem_range.mp hk
  match k, hk with
  | 0, _ => exact awBig_tab (n := 59) (by decide +kernel) (by decide +kernel)
  | 1, _ => exact awBig_tab (n := 55) (by decide +kernel) (by decide +kernel)
  | 2, _ => exact awBig_tab (n := 57) (by decide +kernel) (by decide +kernel)
  | n + 3, h => omega
theorem ws_X0 : ∀ w ∈ u_ws RX0 TX0 13, w ∈ awBig := by
  refine List.forall_mem_map.mpr ?_
  intro k hk
  have hk := List.mem_range.mp hk
  match k, hk with
  | 0, _ => exact awBig_tab (n := 682) (by decide +kernel) (by decide +kernel)
  | 1, _ => exact awBig_tab (n := 684) (by decide +kernel) (by decide +kernel)
  | 2, _ => exact awBig_tab (n := 686) (by decide +kernel) (by decide +kernel)
  | 3, _ => exact awBig_tab (n := 688) (by decide +kernel) (by decide +kernel)
  | 4, _ => exact awBig_tab (n := 690) (by decide +kernel) (by decide +kernel)
  | 5, _ => exact awBig_tab (n := 692) (by decide +kernel) (by decide +kernel)
  | 6, _ => exact awBig_tab (n := 694) (by decide +kernel) (by decide +kernel)
  | 7, _ => exact awBig_tab (n := 696) (by decide +kernel) (by decide +kernel)
  | 8, _ => exact awBig_tab (n := 698) (by decide +kernel) (by decide +kernel)
  | 9, _ => exact awBig_tab (n := 700) (by decide +kernel) (by decide +kernel)
  | 10, _ => exact awBig_tab (n := 702) (by decide +kernel) (by decide +kernel)
  | 11, _ => exact awBig_tab (n := 704) (by decide +kernel) (by decide +kernel)
  | 12, _ => exact awBig_tab (n := 706) (by decide +kernel) (by decide +kernel)
  | n + 13, h => omega
theorem ws_X1 : ∀ w ∈ u_ws RX1 TX1 4, w ∈ awBig := by
  refine List.forall_mem_map.mpr ?_
  intro k hk
  have hk := List.mem_range.mp hk
  match k, hk with
  | 0, _ => exact awBig_tab (n := 103) (by decide +kernel) (by decide +kernel)
  | 1, _ => exact awBig_tab (n := 105) (by decide +kernel) (by decide +kernel)
  | 2, _ => exact awBig_tab (n := 107) (by decide +kernel) (by decide +kernel)
  | 3, _ => exact awBig_tab (n := 109) (by decide +kernel) (by decide +kernel)
  | n + 4, h => omega
theorem ws_X2 : ∀ w ∈ u_ws RX2 TX2 7, w ∈ awBig := by
  refine List.forall_mem_map.mpr ?_
  intro k hk
  have hk := List.mem_range.mp hk
  match k, hk with
  | 0, _ => exact awBig_tab (n := 636) (by decide +kernel) (by decide +kernel)
  | 1, _ => exact awBig_tab (n := 638) (by decide +kernel) (by decide +kernel)
  | 2, _ => exact awBig_tab (n := 640) (by decide +kernel) (by decide +kernel)
  | 3, _ => exact awBig_tab (n := 642) (by decide +kernel) (by decide +kernel)
  | 4, _ => exact awBig_tab (n := 644) (by decide +kernel) (by decide +kernel)
  | 5, _ => exact awBig_tab (n := 646) (by decide +kernel) (by decide +kernel)
  | 6, _ => exact awBig_tab (n := 648) (by decide +kernel) (by decide +kernel)
  | n + 7, h => omega
theorem ws_X3 : ∀ w ∈ u_ws RX3 TX3 11, w ∈ awBig := by
  refine List.forall_mem_map.mpr ?_
  intro k hk
  have hk := List.mem_range.mp hk
  match k, hk with
  | 0, _ => exact awBig_tab (n := 828) (by decide +kernel) (by decide +kernel)
  | 1, _ => exact awBig_tab (n := 830) (by decide +kernel) (by decide +kernel)
  | 2, _ => exact awBig_tab (n := 832) (by decide +kernel) (by decide +kernel)
  | 3, _ => exact awBig_tab (n := 834) (by decide +kernel) (by decide +kernel)
  | 4, _ => exact awBig_tab (n := 836) (by decide +kernel) (by decide +kernel)
  | 5, _ => exact awBig_tab (n := 838) (by decide +kernel) (by decide +kernel)
  | 6, _ => exact awBig_tab (n := 840) (by decide +kernel) (by decide +kernel)
  | 7, _ => exact awBig_tab (n := 842) (by decide +kernel) (by decide +kernel)
  | 8, _ => exact awBig_tab (n := 844) (by decide +kernel) (by decide +kernel)
  | 9, _ => exact awBig_tab (n := 846) (by decide +kernel) (by decide +kernel)
  | 10, _ => exact awBig_tab (n := 848) (by decide +kernel) (by decide +kernel)
  | n + 11, h => omega
theorem ws_X4 : ∀ w ∈ u_ws RX4 TX4 5, w ∈ awBig := by
  refine List.forall_mem_map.mpr ?_
  intro k hk
  have hk := List.mem_range.mp hk
  match k, hk with
  | 0, _ => exact awBig_tab (n := 78) (by decide +kernel) (by decide +kernel)
  | 1, _ => exact awBig_tab (n := 80) (by decide +kernel) (by decide +kernel)
  | 2, _ => exact awBig_tab (n := 82) (by decide +kernel) (by decide +kernel)
  | 3, _ => exact awBig_tab (n := 84) (by decide +kernel) (by decide +kernel)
  | 4, _ => exact awBig_tab (n := 86) (by decide +kernel) (by decide +kernel)
  | n + 5, h => omega
theorem ws_X5 : ∀ w ∈ u_ws RX5 TX5 13, w ∈ awBig := by
  refine List.forall_mem_map.mpr ?_
  intro k hk
  have hk := List.mem_range.mp hk
  match k, hk with
  | 0, _ => exact awBig_tab (n := 335) (by decide +kernel) (by decide +kernel)
  | 1, _ => exact awBig_tab (n := 337) (by decide +kernel) (by decide +kernel)
  | 2, _ => exact awBig_tab (n := 339) (by decide +kernel) (by decide +kernel)
  | 3, _ => exact awBig_tab (n := 341) (by decide +kernel) (by decide +kernel)
  | 4, _ => exact awBig_tab (n := 343) (by decide +kernel) (by decide +kernel)
  | 5, _ => exact awBig_tab (n := 345) (by decide +kernel) (by decide +kernel)
  | 6, _ => exact awBig_tab (n := 347) (by decide +kernel) (by decide +kernel)
  | 7, _ => exact awBig_tab (n := 349) (by decide +kernel) (by decide +kernel)
  | 8, _ => exact awBig_tab (n := 351) (by decide +kernel) (by decide +kernel)
  | 9, _ => exact awBig_tab (n := 353) (by decide +kernel) (by decide +kernel)
  | 10, _ => exact awBig_tab (n := 355) (by decide +kernel) (by decide +kernel)
  | 11, _ => exact awBig_tab (n := 357) (by decide +kernel) (by decide +kernel)
  | 12, _ => exact awBig_tab (n := 359) (by decide +kernel) (by decide +kernel)
  | n + 13, h => omega
theorem ws_X6 : ∀ w ∈ u_ws RX6 TX6 4, w ∈ awBig := by
  refine List.forall_mem_map.mpr ?_
  intro k hk
  have hk := List.mem_range.mp hk
  match k, hk with
  | 0, _ => exact awBig_tab (n := 458) (by decide +kernel) (by decide +kernel)
  | 1, _ => exact awBig_tab (n := 460) (by decide +kernel) (by decide +kernel)
  | 2, _ => exact awBig_tab (n := 462) (by decide +kernel) (by decide +kernel)
  | 3, _ => exact awBig_tab (n := 464) (by decide +kernel) (by decide +kernel)
  | n + 4, h => omega
theorem ws_X7 : ∀ w ∈ u_ws RX7 TX7 4, w ∈ awBig := by
  refine List.forall_mem_map.mpr ?_
  intro k hk
  have hk := List.mem_range.mp hk
  match k, hk with
  | 0, _ => exact awBig_tab (n := 417) (by decide +kernel) (by decide +kernel)
  | 1, _ => exact awBig_tab (n := 419) (by decide +kernel) (by decide +kernel)
  | 2, _ => exact awBig_tab (n := 421) (by decide +kernel) (by decide +kernel)
  | 3, _ => exact awBig_tab (n := 423) (by decide +kernel) (by decide +kernel)
  | n + 4, h => omega
theorem ws_X8 : ∀ w ∈ u_ws RX8 TX8 4, w ∈ awBig := by
  refine List.forall_mem_map.mpr ?_
  intro k hk
  have hk := List.mem_range.mp hk
  match k, hk with
  | 0, _ => exact awBig_tab (n := 188) (by decide +kernel) (by decide +kernel)
  | 1, _ => exact awBig_tab (n := 190) (by decide +kernel) (by decide +kernel)
  | 2, _ => exact awBig_tab (n := 192) (by decide +kernel) (by decide +kernel)
  | 3, _ => exact awBig_tab (n := 194) (by decide +kernel) (by decide +kernel)
  | n + 4, h => omega
theorem ws_X9 : ∀ w ∈ u_ws RX9 TX9 4, w ∈ awBig := by
  refine List.forall_mem_map.mpr ?_
  intro k hk
  have hk := List.mem_range.mp hk
  match k, hk with
  | 0, _ => exact awBig_tab (n := 489) (by decide +kernel) (by decide +kernel)
  | 1, _ => exact awBig_tab (n := 491) (by decide +kernel) (by decide +kernel)
  | 2, _ => exact awBig_tab (n := 493) (by decide +kernel) (by decide +kernel)
  | 3, _ => exact awBig_tab (n := 495) (by decide +kernel) (by decide +kernel)
  | n + 4, h => omega
theorem ws_X10 : ∀ w ∈ u_ws RX10 TX10 6, w ∈ awBig := by
  refine List.forall_mem_map.mpr ?_
  intro k hk
  have hk := List.mem_range.mp hk
  match k, hk with
  | 0, _ => exact awBig_tab (n := 299) (by decide +kernel) (by decide +kernel)
  | 1, _ => exact awBig_tab (n := 301) (by decide +kernel) (by decide +kernel)
  | 2, _ => exact awBig_tab (n := 303) (by decide +kernel) (by decide +kernel)
  | 3, _ => exact awBig_tab (n := 305) (by decide +kernel) (by decide +kernel)
  | 4, _ => exact awBig_tab (n := 307) (by decide +kernel) (by decide +kernel)
  | 5, _ => exact awBig_tab (n := 309) (by decide +kernel) (by decide +kernel)
  | n + 6, h => omega
theorem ws_X11 : ∀ w ∈ u_ws RX11 TX11 16, w ∈ awBig := by
  refine List.forall_mem_map.mpr ?_
  intro k hk
  have hk := List.mem_range.mp hk
  match k, hk with
  | 0, _ => exact awBig_tab (n := 129) (by decide +kernel) (by decide +kernel)
  | 1, _ => exact awBig_tab (n := 131) (by decide +kernel) (by decide +kernel)
  | 2, _ => exact awBig_tab (n := 133) (by decide +kernel) (by decide +kernel)
  | 3, _ => exact awBig_tab (n := 135) (by decide +kernel) (by decide +kernel)
  | 4, _ => exact awBig_tab (n := 137) (by decide +kernel) (by decide +kernel)
  | 5, _ => exact awBig_tab (n := 139) (by decide +kernel) (by decide +kernel)
  | 6, _ => exact awBig_tab (n := 141) (by decide +kernel) (by decide +kernel)
  | 7, _ => exact awBig_tab (n := 143) (by decide +kernel) (by decide +kernel)
  | 8, _ => exact awBig_tab (n := 145) (by decide +kernel) (by decide +kernel)
  | 9, _ => exact awBig_tab (n := 147) (by decide +kernel) (by decide +kernel)
  | 10, _ => exact awBig_tab (n := 149) (by decide +kernel) (by decide +kernel)
  | 11, _ => exact awBig_tab (n := 151) (by decide +kernel) (by decide +kernel)
  | 12, _ => exact awBig_tab (n := 153) (by decide +kernel) (by decide +kernel)
  | 13, _ => exact awBig_tab (n := 155) (by decide +kernel) (by decide +kernel)
  | 14, _ => exact awBig_tab (n := 157) (by decide +kernel) (by decide +kernel)
  | 15, _ => exact awBig_tab (n := 159) (by decide +kernel) (by decide +kernel)
  | n + 16, h => omega
theorem ws_X12 : ∀ w ∈ u_ws RX12 TX12 84, w ∈ awBig := by
  refine List.forall_mem_map.mpr ?_
  intro k hk
  have hk := List.mem_range.mp hk
  match k, hk with
  | 0, _ => exact awBig_tab (n := 1256) (by decide +kernel) (by decide +kernel)
  | 1, _ => exact awBig_tab (n := 1258) (by decide +kernel) (by decide +kernel)
  | 2, _ => exact awBig_tab (n := 1260) (by decide +kernel) (by decide +kernel)
  | 3, _ => exact awBig_tab (n := 1262) (by decide +kernel) (by decide +kernel)
  | 4, _ => exact awBig_tab (n := 1264) (by decide +kernel) (by decide +kernel)
  | 5, _ => exact awBig_tab (n := 1266) (by decide +kernel) (by decide +kernel)
  | 6, _ => exact awBig_tab (n := 1268) (by decide +kernel) (by decide +kernel)
  | 7, _ => exact awBig_tab (n := 1270) (by decide +kernel) (by decide +kernel)
  | 8, _ => exact awBig_tab (n := 1272) (by decide +kernel) (by decide +kernel)
  | 9, _ => exact awBig_tab (n := 1274) (by decide +kernel) (by decide +kernel)
  | 10, _ => exact awBig_tab (n := 1276) (by decide +kernel) (by decide +kernel)
  | 11, _ => exact awBig_tab (n := 1278) (by decide +kernel) (by decide +kernel)
  | 12, _ => exact awBig_tab (n := 1280) (by decide +kernel) (by decide +kernel)
  | 13, _ => exact awBig_tab (n := 1282) (by decide +kernel) (by decide +kernel)
  | 14, _ => exact awBig_tab (n := 1284) (by decide +kernel) (by decide +kernel)
  | 15, _ => exact awBig_tab (n := 1286) (by decide +kernel) (by decide +kernel)
  | 16, _ => exact awBig_tab (n := 1288) (by decide +kernel) (by decide +kernel)
  | 17, _ => exact awBig_tab (n := 1290) (by decide +kernel) (by decide +kernel)
  | 18, _ => exact awBig_tab (n := 1292) (by decide +kernel) (by decide +kernel)
  | 19, _ => exact awBig_tab (n := 1294) (by decide +kernel) (by decide +kernel)
  | 20, _ => exact awBig_tab (n := 1296) (by decide +kernel) (by decide +kernel)
  | 21, _ => exact awBig_tab (n := 1298) (by decide +kernel) (by decide +kernel)
  | 22, _ => exact awBig_tab (n := 1300) (by decide +kernel) (by decide +kernel)
  | 23, _ => exact awBig_tab (n := 1302) (by decide +kernel) (by decide +kernel)
  | 24, _ => exact awBig_tab (n := 1304) (by decide +kernel) (by decide +kernel)
  | 25, _ => exact awBig_tab (n := 1306) (by decide +kernel) (by decide +kernel)
  | 26, _ => exact awBig_tab (n := 1308) (by decide +kernel) (by decide +kernel)
  | 27, _ => exact awBig_tab (n := 1310) (by decide +kernel) (by decide +kernel)
  | 28, _ => exact awBig_tab (n := 1312) (by decide +kernel) (by decide +kernel)
  | 29, _ => exact awBig_tab (n := 1314) (by decide +kernel) (by decide +kernel)
  | 30, _ => exact awBig_tab (n := 1316) (by decide +kernel) (by decide +kernel)
  | 31, _ => exact awBig_tab (n := 1318) (by decide +kernel) (by decide +kernel)
  | 32, _ => exact awBig_tab (n := 1320) (by decide +kernel) (by decide +kernel)
  | 33, _ => exact awBig_tab (n := 1322) (by decide +kernel) (by decide +kernel)
  | 34, _ => exact awBig_tab (n := 1324) (by decide +kernel) (by decide +kernel)
  | 35, _ => exact awBig_tab (n := 1326) (by decide +kernel) (by decide +kernel)
  | 36, _ => exact awBig_tab (n := 1328) (by decide +kernel) (by decide +kernel)
  | 37, _ => exact awBig_tab (n := 1330) (by decide +kernel) (by decide +kernel)
  | 38, _ => exact awBig_tab (n := 1332) (by decide +kernel) (by decide +kernel)
  | 39, _ => exact awBig_tab (n := 1334) (by decide +kernel) (by decide +kernel)
  | 40, _ => exact awBig_tab (n := 1336) (by decide +kernel) (by decide +kernel)
  | 41, _ => exact awBig_tab (n := 1338) (by decide +kernel) (by decide +kernel)
  | 42, _ => exact awBig_tab (n := 1340) (by decide +kernel) (by decide +kernel)
  | 43, _ => exact awBig_tab (n := 1342) (by decide +kernel) (by decide +kernel)
  | 44, _ => exact awBig_tab (n := 1344) (by decide +kernel) (by decide +kernel)
  | 45, _ => exact awBig_tab (n := 1346) (by decide +kernel) (by decide +kernel)
  | 46, _ => exact awBig_tab (n := 1348) (by decide +kernel) (by decide +kernel)
  | 47, _ => exact awBig_tab (n := 1350) (by decide +kernel) (by decide +kernel)
  | 48, _ => exact awBig_tab (n := 1352) (by decide +kernel) (by decide +kernel)
  | 49, _ => exact awBig_tab (n := 1354) (by decide +kernel) (by decide +kernel)
  | 50, _ => exact awBig_tab (n := 1356) (by decide +kernel) (by decide +kernel)
  | 51, _ => exact awBig_tab (n := 1358) (by decide +kernel) (by decide +kernel)
  | 52, _ => exact awBig_tab (n := 1360) (by decide +kernel) (by decide +kernel)
  | 53, _ => exact awBig_tab (n := 1362) (by decide +kernel) (by decide +kernel)
  | 54, _ => exact awBig_tab (n := 1364) (by decide +kernel) (by decide +kernel)
  | 55, _ => exact awBig_tab (n := 1366) (by decide +kernel) (by decide +kernel)
  | 56, _ => exact awBig_tab (n := 1368) (by decide +kernel) (by decide +kernel)
  | 57, _ => exact awBig_tab (n := 1370) (by decide +kernel) (by decide +kernel)
  | 58, _ => exact awBig_tab (n := 1372) (by decide +kernel) (by decide +kernel)
  | 59, _ => exact awBig_tab (n := 1374) (by decide +kernel) (by decide +kernel)
  | 60, _ => exact awBig_tab (n := 1376) (by decide +kernel) (by decide +kernel)
  | 61, _ => exact awBig_tab (n := 1378) (by decide +kernel) (by decide +kernel)
  | 62, _ => exact awBig_tab (n := 1380) (by decide +kernel) (by decide +kernel)
  | 63, _ => exact awBig_tab (n := 1382) (by decide +kernel) (by decide +kernel)
  | 64, _ => exact awBig_tab (n := 1384) (by decide +kernel) (by decide +kernel)
  | 65, _ => exact awBig_tab (n := 1386) (by decide +kernel) (by decide +kernel)
  | 66, _ => exact awBig_tab (n := 1388) (by decide +kernel) (by decide +kernel)
  | 67, _ => exact awBig_tab (n := 1390) (by decide +kernel) (by decide +kernel)
  | 68, _ => exact awBig_tab (n := 1392) (by decide +kernel) (by decide +kernel)
  | 69, _ => exact awBig_tab (n := 1394) (by decide +kernel) (by decide +kernel)
  | 70, _ => exact awBig_tab (n := 1396) (by decide +kernel) (by decide +kernel)
  | 71, _ => exact awBig_tab (n := 1398) (by decide +kernel) (by decide +kernel)
  | 72, _ => exact awBig_tab (n := 1400) (by decide +kernel) (by decide +kernel)
  | 73, _ => exact awBig_tab (n := 1402) (by decide +kernel) (by decide +kernel)
  | 74, _ => exact awBig_tab (n := 1404) (by decide +kernel) (by decide +kernel)
  | 75, _ => exact awBig_tab (n := 1406) (by decide +kernel) (by decide +kernel)
  | 76, _ => exact awBig_tab (n := 1408) (by decide +kernel) (by decide +kernel)
  | 77, _ => exact awBig_tab (n := 1410) (by decide +kernel) (by decide +kernel)
  | 78, _ => exact awBig_tab (n := 1412) (by decide +kernel) (by decide +kernel)
  | 79, _ => exact awBig_tab (n := 1414) (by decide +kernel) (by decide +kernel)
  | 80, _ => exact awBig_tab (n := 1416) (by decide +kernel) (by decide +kernel)
  | 81, _ => exact awBig_tab (n := 1418) (by decide +kernel) (by decide +kernel)
  | 82, _ => exact awBig_tab (n := 1420) (by decide +kernel) (by decide +kernel)
  | 83, _ => exact awBig_tab (n := 1422) (by decide +kernel) (by decide +kernel)
  | n + 84, h => omega
def awFld (own : String) (idx c k : Nat) : Prop := c < 14 ∧ k < (oCl c).2.2 ∧ Cond.fieldLink own idx ((oCl c).2.1 k).1 ((oCl c).2.1 k).2.1 ((oCl c).2.1 k).2.2.1 ∈ awBig
theorem fl_X11_10 : awFld "AlarmTower" 10 12 0 := ⟨by decide, by decide, awBig_tab (n := 113) (by decide +kernel) (by decide +kernel)⟩
theorem fl_X11_16 : awFld "AlarmTower" 16 12 1 := ⟨by decide, by decide, awBig_tab (n := 114) (by decide +kernel) (by decide +kernel)⟩
theorem fl_X11_19 : awFld "AlarmTower" 19 12 2 := ⟨by decide, by decide, awBig_tab (n := 115) (by decide +kernel) (by decide +kernel)⟩
theorem fl_X11_22 : awFld "AlarmTower" 22 12 3 := ⟨by decide, by decide, awBig_tab (n := 116) (by decide +kernel) (by decide +kernel)⟩
theorem fl_X11_25 : awFld "AlarmTower" 25 12 4 := ⟨by decide, by decide, awBig_tab (n := 117) (by decide +kernel) (by decide +kernel)⟩
theorem fl_X11_28 : awFld "AlarmTower" 28 12 5 := ⟨by decide, by decide, awBig_tab (n := 118) (by decide +kernel) (by decide +kernel)⟩
theorem fl_X11_33 : awFld "AlarmTower" 33 12 6 := ⟨by decide, by decide, awBig_tab (n := 119) (by decide +kernel) (by decide +kernel)⟩
theorem fl_X11_40 : awFld "AlarmTower" 40 12 7 := ⟨by decide, by decide, awBig_tab (n := 120) (by decide +kernel) (by decide +kernel)⟩
theorem fl_X11_44 : awFld "AlarmTower" 44 12 8 := ⟨by decide, by decide, awBig_tab (n := 121) (by decide +kernel) (by decide +kernel)⟩
theorem fl_X11_48 : awFld "AlarmTower" 48 12 9 := ⟨by decide, by decide, awBig_tab (n := 122) (by decide +kernel) (by decide +kernel)⟩
theorem fl_X11_52 : awFld "AlarmTower" 52 12 10 := ⟨by decide, by decide, awBig_tab (n := 123) (by decide +kernel) (by decide +kernel)⟩
theorem fl_X11_55 : awFld "AlarmTower" 55 12 11 := ⟨by decide, by decide, awBig_tab (n := 124) (by decide +kernel) (by decide +kernel)⟩
theorem fl_X11_58 : awFld "AlarmTower" 58 12 12 := ⟨by decide, by decide, awBig_tab (n := 125) (by decide +kernel) (by decide +kernel)⟩
theorem fl_X11_61 : awFld "AlarmTower" 61 12 13 := ⟨by decide, by decide, awBig_tab (n := 126) (by decide +kernel) (by decide +kernel)⟩
theorem fl_X11_64 : awFld "AlarmTower" 64 12 14 := ⟨by decide, by decide, awBig_tab (n := 127) (by decide +kernel) (by decide +kernel)⟩
theorem fl_X11_67 : awFld "AlarmTower" 67 12 15 := ⟨by decide, by decide, awBig_tab (n := 128) (by decide +kernel) (by decide +kernel)⟩
theorem fl_X11_101 : awFld "AlarmTower" 101 6 0 := ⟨by decide, by decide, awBig_tab (n := 315) (by decide +kernel) (by decide +kernel)⟩
theorem fl_X11_190 : awFld "AlarmTower" 190 9 0 := ⟨by decide, by decide, awBig_tab (n := 180) (by decide +kernel) (by decide +kernel)⟩
theorem fl_X11_199 : awFld "AlarmTower" 199 6 1 := ⟨by decide, by decide, awBig_tab (n := 317) (by decide +kernel) (by decide +kernel)⟩
theorem fl_X11_219 : awFld "AlarmTower" 219 11 4 := ⟨by decide, by decide, awBig_tab (n := 296) (by decide +kernel) (by decide +kernel)⟩
theorem fl_X11_223 : awFld "AlarmTower" 223 11 2 := ⟨by decide, by decide, awBig_tab (n := 291) (by decide +kernel) (by decide +kernel)⟩
theorem fl_X11_226 : awFld "AlarmTower" 226 6 4 := ⟨by decide, by decide, awBig_tab (n := 323) (by decide +kernel) (by decide +kernel)⟩
theorem fl_X11_233 : awFld "AlarmTower" 233 11 3 := ⟨by decide, by decide, awBig_tab (n := 294) (by decide +kernel) (by decide +kernel)⟩
theorem fl_X11_236 : awFld "AlarmTower" 236 6 5 := ⟨by decide, by decide, awBig_tab (n := 325) (by decide +kernel) (by decide +kernel)⟩
theorem fl_X11_243 : awFld "AlarmTower" 243 6 2 := ⟨by decide, by decide, awBig_tab (n := 319) (by decide +kernel) (by decide +kernel)⟩
theorem fl_X11_251 : awFld "AlarmTower" 251 6 3 := ⟨by decide, by decide, awBig_tab (n := 321) (by decide +kernel) (by decide +kernel)⟩
theorem fl_X11_254 : awFld "AlarmTower" 254 11 0 := ⟨by decide, by decide, awBig_tab (n := 286) (by decide +kernel) (by decide +kernel)⟩
theorem fl_X11_289 : awFld "AlarmTower" 289 1 1 := ⟨by decide, by decide, awBig_tab (n := 660) (by decide +kernel) (by decide +kernel)⟩
theorem fl_X11_296 : awFld "AlarmTower" 296 1 2 := ⟨by decide, by decide, awBig_tab (n := 663) (by decide +kernel) (by decide +kernel)⟩
theorem fl_X11_307 : awFld "AlarmTower" 307 9 1 := ⟨by decide, by decide, awBig_tab (n := 185) (by decide +kernel) (by decide +kernel)⟩
theorem fl_X11_332 : awFld "AlarmTower" 332 1 3 := ⟨by decide, by decide, awBig_tab (n := 665) (by decide +kernel) (by decide +kernel)⟩
theorem fl_X11_340 : awFld "AlarmTower" 340 3 2 := ⟨by decide, by decide, awBig_tab (n := 627) (by decide +kernel) (by decide +kernel)⟩
theorem fl_X11_347 : awFld "AlarmTower" 347 3 6 := ⟨by decide, by decide, awBig_tab (n := 635) (by decide +kernel) (by decide +kernel)⟩
theorem fl_X11_350 : awFld "AlarmTower" 350 3 3 := ⟨by decide, by decide, awBig_tab (n := 629) (by decide +kernel) (by decide +kernel)⟩
theorem fl_X11_353 : awFld "AlarmTower" 353 3 5 := ⟨by decide, by decide, awBig_tab (n := 633) (by decide +kernel) (by decide +kernel)⟩
theorem fl_X11_356 : awFld "AlarmTower" 356 3 4 := ⟨by decide, by decide, awBig_tab (n := 631) (by decide +kernel) (by decide +kernel)⟩
theorem fl_X11_375 : awFld "AlarmTower" 375 4 3 := ⟨by decide, by decide, awBig_tab (n := 815) (by decide +kernel) (by decide +kernel)⟩
theorem fl_X11_382 : awFld "AlarmTower" 382 4 4 := ⟨by decide, by decide, awBig_tab (n := 817) (by decide +kernel) (by decide +kernel)⟩
theorem fl_X11_385 : awFld "AlarmTower" 385 1 0 := ⟨by decide, by decide, awBig_tab (n := 657) (by decide +kernel) (by decide +kernel)⟩
theorem fl_X11_390 : awFld "AlarmTower" 390 1 4 := ⟨by decide, by decide, awBig_tab (n := 667) (by decide +kernel) (by decide +kernel)⟩
theorem fl_X11_393 : awFld "AlarmTower" 393 1 5 := ⟨by decide, by decide, awBig_tab (n := 669) (by decide +kernel) (by decide +kernel)⟩
theorem fl_X11_396 : awFld "AlarmTower" 396 6 6 := ⟨by decide, by decide, awBig_tab (n := 328) (by decide +kernel) (by decide +kernel)⟩
theorem fl_X11_399 : awFld "AlarmTower" 399 1 6 := ⟨by decide, by decide, awBig_tab (n := 671) (by decide +kernel) (by decide +kernel)⟩
theorem fl_X11_402 : awFld "AlarmTower" 402 1 7 := ⟨by decide, by decide, awBig_tab (n := 673) (by decide +kernel) (by decide +kernel)⟩
theorem fl_X11_405 : awFld "AlarmTower" 405 1 8 := ⟨by decide, by decide, awBig_tab (n := 676) (by decide +kernel) (by decide +kernel)⟩
theorem fl_X11_408 : awFld "AlarmTower" 408 1 9 := ⟨by decide, by decide, awBig_tab (n := 678) (by decide +kernel) (by decide +kernel)⟩
theorem fl_X11_414 : awFld "AlarmTower" 414 4 2 := ⟨by decide, by decide, awBig_tab (n := 813) (by decide +kernel) (by decide +kernel)⟩
theorem fl_X11_417 : awFld "AlarmTower" 417 4 6 := ⟨by decide, by decide, awBig_tab (n := 821) (by decide +kernel) (by decide +kernel)⟩
theorem fl_X11_424 : awFld "AlarmTower" 424 4 5 := ⟨by decide, by decide, awBig_tab (n := 819) (by decide +kernel) (by decide +kernel)⟩
theorem fl_X11_427 : awFld "AlarmTower" 427 4 7 := ⟨by decide, by decide, awBig_tab (n := 823) (by decide +kernel) (by decide +kernel)⟩
theorem fl_X11_430 : awFld "AlarmTower" 430 4 8 := ⟨by decide, by decide, awBig_tab (n := 825) (by decide +kernel) (by decide +kernel)⟩
theorem fl_X11_433 : awFld "AlarmTower" 433 4 1 := ⟨by decide, by decide, awBig_tab (n := 811) (by decide +kernel) (by decide +kernel)⟩
theorem fl_X11_445 : awFld "AlarmTower" 445 4 0 := ⟨by decide, by decide, awBig_tab (n := 809) (by decide +kernel) (by decide +kernel)⟩
theorem fl_X11_455 : awFld "AlarmTower" 455 5 0 := ⟨by decide, by decide, awBig_tab (n := 73) (by decide +kernel) (by decide +kernel)⟩
theorem fl_X11_501 : awFld "AlarmTower" 501 2 2 := ⟨by decide, by decide, awBig_tab (n := 100) (by decide +kernel) (by decide +kernel)⟩
theorem fl_X11_509 : awFld "AlarmTower" 509 2 0 := ⟨by decide, by decide, awBig_tab (n := 96) (by decide +kernel) (by decide +kernel)⟩
theorem fl_X11_513 : awFld "AlarmTower" 513 2 3 := ⟨by decide, by decide, awBig_tab (n := 102) (by decide +kernel) (by decide +kernel)⟩
theorem fl_X11_533 : awFld "AlarmTower" 533 2 1 := ⟨by decide, by decide, awBig_tab (n := 98) (by decide +kernel) (by decide +kernel)⟩
theorem fl_X0_7 : awFld "AlarmTower$Alarm" 7 1 5 := ⟨by decide, by decide, awBig_tab (n := 668) (by decide +kernel) (by decide +kernel)⟩
theorem fl_X0_13 : awFld "AlarmTower$Alarm" 13 1 6 := ⟨by decide, by decide, awBig_tab (n := 670) (by decide +kernel) (by decide +kernel)⟩
theorem fl_X0_17 : awFld "AlarmTower$Alarm" 17 1 7 := ⟨by decide, by decide, awBig_tab (n := 672) (by decide +kernel) (by decide +kernel)⟩
theorem fl_X0_20 : awFld "AlarmTower$Alarm" 20 1 8 := ⟨by decide, by decide, awBig_tab (n := 674) (by decide +kernel) (by decide +kernel)⟩
theorem fl_X0_23 : awFld "AlarmTower$Alarm" 23 1 9 := ⟨by decide, by decide, awBig_tab (n := 677) (by decide +kernel) (by decide +kernel)⟩
theorem fl_X0_26 : awFld "AlarmTower$Alarm" 26 1 10 := ⟨by decide, by decide, awBig_tab (n := 679) (by decide +kernel) (by decide +kernel)⟩
theorem fl_X0_29 : awFld "AlarmTower$Alarm" 29 1 11 := ⟨by decide, by decide, awBig_tab (n := 680) (by decide +kernel) (by decide +kernel)⟩
theorem fl_X0_32 : awFld "AlarmTower$Alarm" 32 1 12 := ⟨by decide, by decide, awBig_tab (n := 681) (by decide +kernel) (by decide +kernel)⟩
theorem fl_X0_35 : awFld "AlarmTower$Alarm" 35 1 0 := ⟨by decide, by decide, awBig_tab (n := 655) (by decide +kernel) (by decide +kernel)⟩
theorem fl_X0_38 : awFld "AlarmTower$Alarm" 38 1 1 := ⟨by decide, by decide, awBig_tab (n := 658) (by decide +kernel) (by decide +kernel)⟩
theorem fl_X0_42 : awFld "AlarmTower$Alarm" 42 1 2 := ⟨by decide, by decide, awBig_tab (n := 661) (by decide +kernel) (by decide +kernel)⟩
theorem fl_X0_46 : awFld "AlarmTower$Alarm" 46 1 3 := ⟨by decide, by decide, awBig_tab (n := 664) (by decide +kernel) (by decide +kernel)⟩
theorem fl_X0_50 : awFld "AlarmTower$Alarm" 50 1 4 := ⟨by decide, by decide, awBig_tab (n := 666) (by decide +kernel) (by decide +kernel)⟩
theorem fl_X1_9 : awFld "AlarmTower$Board" 9 2 0 := ⟨by decide, by decide, awBig_tab (n := 95) (by decide +kernel) (by decide +kernel)⟩
theorem fl_X1_15 : awFld "AlarmTower$Board" 15 2 1 := ⟨by decide, by decide, awBig_tab (n := 97) (by decide +kernel) (by decide +kernel)⟩
theorem fl_X1_19 : awFld "AlarmTower$Board" 19 2 2 := ⟨by decide, by decide, awBig_tab (n := 99) (by decide +kernel) (by decide +kernel)⟩
theorem fl_X1_22 : awFld "AlarmTower$Board" 22 2 3 := ⟨by decide, by decide, awBig_tab (n := 101) (by decide +kernel) (by decide +kernel)⟩
theorem fl_X2_9 : awFld "AlarmTower$Group" 9 3 2 := ⟨by decide, by decide, awBig_tab (n := 626) (by decide +kernel) (by decide +kernel)⟩
theorem fl_X2_15 : awFld "AlarmTower$Group" 15 3 3 := ⟨by decide, by decide, awBig_tab (n := 628) (by decide +kernel) (by decide +kernel)⟩
theorem fl_X2_19 : awFld "AlarmTower$Group" 19 3 4 := ⟨by decide, by decide, awBig_tab (n := 630) (by decide +kernel) (by decide +kernel)⟩
theorem fl_X2_22 : awFld "AlarmTower$Group" 22 3 5 := ⟨by decide, by decide, awBig_tab (n := 632) (by decide +kernel) (by decide +kernel)⟩
theorem fl_X2_25 : awFld "AlarmTower$Group" 25 3 6 := ⟨by decide, by decide, awBig_tab (n := 634) (by decide +kernel) (by decide +kernel)⟩
theorem fl_X2_28 : awFld "AlarmTower$Group" 28 3 0 := ⟨by decide, by decide, awBig_tab (n := 624) (by decide +kernel) (by decide +kernel)⟩
theorem fl_X2_32 : awFld "AlarmTower$Group" 32 3 1 := ⟨by decide, by decide, awBig_tab (n := 625) (by decide +kernel) (by decide +kernel)⟩
theorem fl_X2_36 : awFld "AlarmTower$Group" 36 9 1 := ⟨by decide, by decide, awBig_tab (n := 182) (by decide +kernel) (by decide +kernel)⟩
theorem fl_X2_41 : awFld "AlarmTower$Group" 41 6 0 := ⟨by decide, by decide, awBig_tab (n := 313) (by decide +kernel) (by decide +kernel)⟩
theorem fl_X2_46 : awFld "AlarmTower$Group" 46 6 6 := ⟨by decide, by decide, awBig_tab (n := 327) (by decide +kernel) (by decide +kernel)⟩
theorem fl_X2_61 : awFld "AlarmTower$Group" 61 1 8 := ⟨by decide, by decide, awBig_tab (n := 675) (by decide +kernel) (by decide +kernel)⟩
theorem fl_X3_9 : awFld "AlarmTower$Letter" 9 4 3 := ⟨by decide, by decide, awBig_tab (n := 814) (by decide +kernel) (by decide +kernel)⟩
theorem fl_X3_15 : awFld "AlarmTower$Letter" 15 4 4 := ⟨by decide, by decide, awBig_tab (n := 816) (by decide +kernel) (by decide +kernel)⟩
theorem fl_X3_19 : awFld "AlarmTower$Letter" 19 4 6 := ⟨by decide, by decide, awBig_tab (n := 820) (by decide +kernel) (by decide +kernel)⟩
theorem fl_X3_22 : awFld "AlarmTower$Letter" 22 4 7 := ⟨by decide, by decide, awBig_tab (n := 822) (by decide +kernel) (by decide +kernel)⟩
theorem fl_X3_25 : awFld "AlarmTower$Letter" 25 4 8 := ⟨by decide, by decide, awBig_tab (n := 824) (by decide +kernel) (by decide +kernel)⟩
theorem fl_X3_28 : awFld "AlarmTower$Letter" 28 4 9 := ⟨by decide, by decide, awBig_tab (n := 826) (by decide +kernel) (by decide +kernel)⟩
theorem fl_X3_31 : awFld "AlarmTower$Letter" 31 4 10 := ⟨by decide, by decide, awBig_tab (n := 827) (by decide +kernel) (by decide +kernel)⟩
theorem fl_X3_34 : awFld "AlarmTower$Letter" 34 4 0 := ⟨by decide, by decide, awBig_tab (n := 808) (by decide +kernel) (by decide +kernel)⟩
theorem fl_X3_38 : awFld "AlarmTower$Letter" 38 4 1 := ⟨by decide, by decide, awBig_tab (n := 810) (by decide +kernel) (by decide +kernel)⟩
theorem fl_X3_41 : awFld "AlarmTower$Letter" 41 4 2 := ⟨by decide, by decide, awBig_tab (n := 812) (by decide +kernel) (by decide +kernel)⟩
theorem fl_X3_44 : awFld "AlarmTower$Letter" 44 4 5 := ⟨by decide, by decide, awBig_tab (n := 818) (by decide +kernel) (by decide +kernel)⟩
theorem fl_X3_47 : awFld "AlarmTower$Letter" 47 1 0 := ⟨by decide, by decide, awBig_tab (n := 656) (by decide +kernel) (by decide +kernel)⟩
theorem fl_X4_9 : awFld "AlarmTower$Roster" 9 5 0 := ⟨by decide, by decide, awBig_tab (n := 72) (by decide +kernel) (by decide +kernel)⟩
theorem fl_X4_18 : awFld "AlarmTower$Roster" 18 5 1 := ⟨by decide, by decide, awBig_tab (n := 74) (by decide +kernel) (by decide +kernel)⟩
theorem fl_X4_22 : awFld "AlarmTower$Roster" 22 5 2 := ⟨by decide, by decide, awBig_tab (n := 75) (by decide +kernel) (by decide +kernel)⟩
theorem fl_X4_25 : awFld "AlarmTower$Roster" 25 5 3 := ⟨by decide, by decide, awBig_tab (n := 76) (by decide +kernel) (by decide +kernel)⟩
theorem fl_X4_29 : awFld "AlarmTower$Roster" 29 5 4 := ⟨by decide, by decide, awBig_tab (n := 77) (by decide +kernel) (by decide +kernel)⟩
theorem fl_X4_57 : awFld "AlarmTower$Roster" 57 10 0 := ⟨by decide, by decide, awBig_tab (n := 484) (by decide +kernel) (by decide +kernel)⟩
theorem fl_X4_60 : awFld "AlarmTower$Roster" 60 10 1 := ⟨by decide, by decide, awBig_tab (n := 486) (by decide +kernel) (by decide +kernel)⟩
theorem fl_X4_83 : awFld "AlarmTower$Roster" 83 7 0 := ⟨by decide, by decide, awBig_tab (n := 453) (by decide +kernel) (by decide +kernel)⟩
theorem fl_X4_86 : awFld "AlarmTower$Roster" 86 7 1 := ⟨by decide, by decide, awBig_tab (n := 455) (by decide +kernel) (by decide +kernel)⟩
theorem fl_X5_11 : awFld "AlarmTower$Rule" 11 6 9 := ⟨by decide, by decide, awBig_tab (n := 331) (by decide +kernel) (by decide +kernel)⟩
theorem fl_X5_17 : awFld "AlarmTower$Rule" 17 6 10 := ⟨by decide, by decide, awBig_tab (n := 332) (by decide +kernel) (by decide +kernel)⟩
theorem fl_X5_21 : awFld "AlarmTower$Rule" 21 6 11 := ⟨by decide, by decide, awBig_tab (n := 333) (by decide +kernel) (by decide +kernel)⟩
theorem fl_X5_24 : awFld "AlarmTower$Rule" 24 6 12 := ⟨by decide, by decide, awBig_tab (n := 334) (by decide +kernel) (by decide +kernel)⟩
theorem fl_X5_28 : awFld "AlarmTower$Rule" 28 6 0 := ⟨by decide, by decide, awBig_tab (n := 312) (by decide +kernel) (by decide +kernel)⟩
theorem fl_X5_32 : awFld "AlarmTower$Rule" 32 6 1 := ⟨by decide, by decide, awBig_tab (n := 316) (by decide +kernel) (by decide +kernel)⟩
theorem fl_X5_35 : awFld "AlarmTower$Rule" 35 6 7 := ⟨by decide, by decide, awBig_tab (n := 329) (by decide +kernel) (by decide +kernel)⟩
theorem fl_X5_38 : awFld "AlarmTower$Rule" 38 6 2 := ⟨by decide, by decide, awBig_tab (n := 318) (by decide +kernel) (by decide +kernel)⟩
theorem fl_X5_42 : awFld "AlarmTower$Rule" 42 6 3 := ⟨by decide, by decide, awBig_tab (n := 320) (by decide +kernel) (by decide +kernel)⟩
theorem fl_X5_45 : awFld "AlarmTower$Rule" 45 6 4 := ⟨by decide, by decide, awBig_tab (n := 322) (by decide +kernel) (by decide +kernel)⟩
theorem fl_X5_48 : awFld "AlarmTower$Rule" 48 6 5 := ⟨by decide, by decide, awBig_tab (n := 324) (by decide +kernel) (by decide +kernel)⟩
theorem fl_X5_51 : awFld "AlarmTower$Rule" 51 6 6 := ⟨by decide, by decide, awBig_tab (n := 326) (by decide +kernel) (by decide +kernel)⟩
theorem fl_X5_54 : awFld "AlarmTower$Rule" 54 6 8 := ⟨by decide, by decide, awBig_tab (n := 330) (by decide +kernel) (by decide +kernel)⟩
theorem fl_X5_58 : awFld "AlarmTower$Rule" 58 9 1 := ⟨by decide, by decide, awBig_tab (n := 184) (by decide +kernel) (by decide +kernel)⟩
theorem fl_X5_77 : awFld "AlarmTower$Rule" 77 11 1 := ⟨by decide, by decide, awBig_tab (n := 288) (by decide +kernel) (by decide +kernel)⟩
theorem fl_X5_106 : awFld "AlarmTower$Rule" 106 11 5 := ⟨by decide, by decide, awBig_tab (n := 298) (by decide +kernel) (by decide +kernel)⟩
theorem fl_X5_110 : awFld "AlarmTower$Rule" 110 11 2 := ⟨by decide, by decide, awBig_tab (n := 290) (by decide +kernel) (by decide +kernel)⟩
theorem fl_X5_113 : awFld "AlarmTower$Rule" 113 11 3 := ⟨by decide, by decide, awBig_tab (n := 293) (by decide +kernel) (by decide +kernel)⟩
theorem fl_X6_9 : awFld "AlarmTower$Shift" 9 7 0 := ⟨by decide, by decide, awBig_tab (n := 452) (by decide +kernel) (by decide +kernel)⟩
theorem fl_X6_15 : awFld "AlarmTower$Shift" 15 7 2 := ⟨by decide, by decide, awBig_tab (n := 456) (by decide +kernel) (by decide +kernel)⟩
theorem fl_X6_18 : awFld "AlarmTower$Shift" 18 7 3 := ⟨by decide, by decide, awBig_tab (n := 457) (by decide +kernel) (by decide +kernel)⟩
theorem fl_X6_21 : awFld "AlarmTower$Shift" 21 7 1 := ⟨by decide, by decide, awBig_tab (n := 454) (by decide +kernel) (by decide +kernel)⟩
theorem fl_X7_7 : awFld "AlarmTower$Silence" 7 8 0 := ⟨by decide, by decide, awBig_tab (n := 413) (by decide +kernel) (by decide +kernel)⟩
theorem fl_X7_13 : awFld "AlarmTower$Silence" 13 8 1 := ⟨by decide, by decide, awBig_tab (n := 414) (by decide +kernel) (by decide +kernel)⟩
theorem fl_X7_16 : awFld "AlarmTower$Silence" 16 8 2 := ⟨by decide, by decide, awBig_tab (n := 415) (by decide +kernel) (by decide +kernel)⟩
theorem fl_X7_19 : awFld "AlarmTower$Silence" 19 8 3 := ⟨by decide, by decide, awBig_tab (n := 416) (by decide +kernel) (by decide +kernel)⟩
theorem fl_X7_22 : awFld "AlarmTower$Silence" 22 1 2 := ⟨by decide, by decide, awBig_tab (n := 662) (by decide +kernel) (by decide +kernel)⟩
theorem fl_X7_28 : awFld "AlarmTower$Silence" 28 9 1 := ⟨by decide, by decide, awBig_tab (n := 183) (by decide +kernel) (by decide +kernel)⟩
theorem fl_X7_31 : awFld "AlarmTower$Silence" 31 1 1 := ⟨by decide, by decide, awBig_tab (n := 659) (by decide +kernel) (by decide +kernel)⟩
theorem fl_X7_34 : awFld "AlarmTower$Silence" 34 6 0 := ⟨by decide, by decide, awBig_tab (n := 314) (by decide +kernel) (by decide +kernel)⟩
theorem fl_X8_9 : awFld "AlarmTower$Source" 9 9 2 := ⟨by decide, by decide, awBig_tab (n := 186) (by decide +kernel) (by decide +kernel)⟩
theorem fl_X8_15 : awFld "AlarmTower$Source" 15 9 3 := ⟨by decide, by decide, awBig_tab (n := 187) (by decide +kernel) (by decide +kernel)⟩
theorem fl_X8_19 : awFld "AlarmTower$Source" 19 9 0 := ⟨by decide, by decide, awBig_tab (n := 179) (by decide +kernel) (by decide +kernel)⟩
theorem fl_X8_23 : awFld "AlarmTower$Source" 23 9 1 := ⟨by decide, by decide, awBig_tab (n := 181) (by decide +kernel) (by decide +kernel)⟩
theorem fl_X9_7 : awFld "AlarmTower$Swap" 7 10 0 := ⟨by decide, by decide, awBig_tab (n := 483) (by decide +kernel) (by decide +kernel)⟩
theorem fl_X9_13 : awFld "AlarmTower$Swap" 13 10 1 := ⟨by decide, by decide, awBig_tab (n := 485) (by decide +kernel) (by decide +kernel)⟩
theorem fl_X9_16 : awFld "AlarmTower$Swap" 16 10 2 := ⟨by decide, by decide, awBig_tab (n := 487) (by decide +kernel) (by decide +kernel)⟩
theorem fl_X9_19 : awFld "AlarmTower$Swap" 19 10 3 := ⟨by decide, by decide, awBig_tab (n := 488) (by decide +kernel) (by decide +kernel)⟩
theorem fl_X10_9 : awFld "AlarmTower$Watch" 9 11 0 := ⟨by decide, by decide, awBig_tab (n := 285) (by decide +kernel) (by decide +kernel)⟩
theorem fl_X10_15 : awFld "AlarmTower$Watch" 15 11 1 := ⟨by decide, by decide, awBig_tab (n := 287) (by decide +kernel) (by decide +kernel)⟩
theorem fl_X10_18 : awFld "AlarmTower$Watch" 18 11 2 := ⟨by decide, by decide, awBig_tab (n := 289) (by decide +kernel) (by decide +kernel)⟩
theorem fl_X10_21 : awFld "AlarmTower$Watch" 21 11 3 := ⟨by decide, by decide, awBig_tab (n := 292) (by decide +kernel) (by decide +kernel)⟩
theorem fl_X10_24 : awFld "AlarmTower$Watch" 24 11 4 := ⟨by decide, by decide, awBig_tab (n := 295) (by decide +kernel) (by decide +kernel)⟩
theorem fl_X10_28 : awFld "AlarmTower$Watch" 28 11 5 := ⟨by decide, by decide, awBig_tab (n := 297) (by decide +kernel) (by decide +kernel)⟩
theorem fl_X12_7 : awFld "AlarmTowerModel" 7 13 3 := ⟨by decide, by decide, awBig_tab (n := 1175) (by decide +kernel) (by decide +kernel)⟩
theorem fl_X12_13 : awFld "AlarmTowerModel" 13 13 4 := ⟨by decide, by decide, awBig_tab (n := 1176) (by decide +kernel) (by decide +kernel)⟩
theorem fl_X12_17 : awFld "AlarmTowerModel" 17 13 5 := ⟨by decide, by decide, awBig_tab (n := 1177) (by decide +kernel) (by decide +kernel)⟩
theorem fl_X12_21 : awFld "AlarmTowerModel" 21 13 7 := ⟨by decide, by decide, awBig_tab (n := 1179) (by decide +kernel) (by decide +kernel)⟩
theorem fl_X12_24 : awFld "AlarmTowerModel" 24 13 8 := ⟨by decide, by decide, awBig_tab (n := 1180) (by decide +kernel) (by decide +kernel)⟩
theorem fl_X12_27 : awFld "AlarmTowerModel" 27 13 9 := ⟨by decide, by decide, awBig_tab (n := 1181) (by decide +kernel) (by decide +kernel)⟩
theorem fl_X12_30 : awFld "AlarmTowerModel" 30 13 10 := ⟨by decide, by decide, awBig_tab (n := 1182) (by decide +kernel) (by decide +kernel)⟩
theorem fl_X12_33 : awFld "AlarmTowerModel" 33 13 11 := ⟨by decide, by decide, awBig_tab (n := 1183) (by decide +kernel) (by decide +kernel)⟩
theorem fl_X12_36 : awFld "AlarmTowerModel" 36 13 12 := ⟨by decide, by decide, awBig_tab (n := 1184) (by decide +kernel) (by decide +kernel)⟩
theorem fl_X12_39 : awFld "AlarmTowerModel" 39 13 13 := ⟨by decide, by decide, awBig_tab (n := 1185) (by decide +kernel) (by decide +kernel)⟩
theorem fl_X12_42 : awFld "AlarmTowerModel" 42 13 14 := ⟨by decide, by decide, awBig_tab (n := 1186) (by decide +kernel) (by decide +kernel)⟩
theorem fl_X12_45 : awFld "AlarmTowerModel" 45 13 15 := ⟨by decide, by decide, awBig_tab (n := 1187) (by decide +kernel) (by decide +kernel)⟩
theorem fl_X12_49 : awFld "AlarmTowerModel" 49 13 16 := ⟨by decide, by decide, awBig_tab (n := 1188) (by decide +kernel) (by decide +kernel)⟩
theorem fl_X12_53 : awFld "AlarmTowerModel" 53 13 17 := ⟨by decide, by decide, awBig_tab (n := 1189) (by decide +kernel) (by decide +kernel)⟩
theorem fl_X12_56 : awFld "AlarmTowerModel" 56 13 18 := ⟨by decide, by decide, awBig_tab (n := 1190) (by decide +kernel) (by decide +kernel)⟩
theorem fl_X12_59 : awFld "AlarmTowerModel" 59 13 19 := ⟨by decide, by decide, awBig_tab (n := 1191) (by decide +kernel) (by decide +kernel)⟩
theorem fl_X12_62 : awFld "AlarmTowerModel" 62 13 20 := ⟨by decide, by decide, awBig_tab (n := 1192) (by decide +kernel) (by decide +kernel)⟩
theorem fl_X12_65 : awFld "AlarmTowerModel" 65 13 22 := ⟨by decide, by decide, awBig_tab (n := 1194) (by decide +kernel) (by decide +kernel)⟩
theorem fl_X12_68 : awFld "AlarmTowerModel" 68 13 23 := ⟨by decide, by decide, awBig_tab (n := 1195) (by decide +kernel) (by decide +kernel)⟩
theorem fl_X12_71 : awFld "AlarmTowerModel" 71 13 24 := ⟨by decide, by decide, awBig_tab (n := 1196) (by decide +kernel) (by decide +kernel)⟩
theorem fl_X12_74 : awFld "AlarmTowerModel" 74 13 26 := ⟨by decide, by decide, awBig_tab (n := 1198) (by decide +kernel) (by decide +kernel)⟩
theorem fl_X12_77 : awFld "AlarmTowerModel" 77 13 27 := ⟨by decide, by decide, awBig_tab (n := 1199) (by decide +kernel) (by decide +kernel)⟩
theorem fl_X12_80 : awFld "AlarmTowerModel" 80 13 28 := ⟨by decide, by decide, awBig_tab (n := 1200) (by decide +kernel) (by decide +kernel)⟩
theorem fl_X12_83 : awFld "AlarmTowerModel" 83 13 29 := ⟨by decide, by decide, awBig_tab (n := 1201) (by decide +kernel) (by decide +kernel)⟩
theorem fl_X12_86 : awFld "AlarmTowerModel" 86 13 31 := ⟨by decide, by decide, awBig_tab (n := 1203) (by decide +kernel) (by decide +kernel)⟩
theorem fl_X12_89 : awFld "AlarmTowerModel" 89 13 32 := ⟨by decide, by decide, awBig_tab (n := 1204) (by decide +kernel) (by decide +kernel)⟩
theorem fl_X12_92 : awFld "AlarmTowerModel" 92 13 33 := ⟨by decide, by decide, awBig_tab (n := 1205) (by decide +kernel) (by decide +kernel)⟩
theorem fl_X12_95 : awFld "AlarmTowerModel" 95 13 34 := ⟨by decide, by decide, awBig_tab (n := 1206) (by decide +kernel) (by decide +kernel)⟩
theorem fl_X12_98 : awFld "AlarmTowerModel" 98 13 35 := ⟨by decide, by decide, awBig_tab (n := 1207) (by decide +kernel) (by decide +kernel)⟩
theorem fl_X12_101 : awFld "AlarmTowerModel" 101 13 36 := ⟨by decide, by decide, awBig_tab (n := 1208) (by decide +kernel) (by decide +kernel)⟩
theorem fl_X12_104 : awFld "AlarmTowerModel" 104 13 37 := ⟨by decide, by decide, awBig_tab (n := 1209) (by decide +kernel) (by decide +kernel)⟩
theorem fl_X12_107 : awFld "AlarmTowerModel" 107 13 38 := ⟨by decide, by decide, awBig_tab (n := 1210) (by decide +kernel) (by decide +kernel)⟩
theorem fl_X12_110 : awFld "AlarmTowerModel" 110 13 39 := ⟨by decide, by decide, awBig_tab (n := 1211) (by decide +kernel) (by decide +kernel)⟩
theorem fl_X12_113 : awFld "AlarmTowerModel" 113 13 40 := ⟨by decide, by decide, awBig_tab (n := 1212) (by decide +kernel) (by decide +kernel)⟩
theorem fl_X12_116 : awFld "AlarmTowerModel" 116 13 41 := ⟨by decide, by decide, awBig_tab (n := 1213) (by decide +kernel) (by decide +kernel)⟩
theorem fl_X12_119 : awFld "AlarmTowerModel" 119 13 42 := ⟨by decide, by decide, awBig_tab (n := 1214) (by decide +kernel) (by decide +kernel)⟩
theorem fl_X12_122 : awFld "AlarmTowerModel" 122 13 43 := ⟨by decide, by decide, awBig_tab (n := 1215) (by decide +kernel) (by decide +kernel)⟩
theorem fl_X12_126 : awFld "AlarmTowerModel" 126 13 44 := ⟨by decide, by decide, awBig_tab (n := 1216) (by decide +kernel) (by decide +kernel)⟩
theorem fl_X12_129 : awFld "AlarmTowerModel" 129 13 45 := ⟨by decide, by decide, awBig_tab (n := 1217) (by decide +kernel) (by decide +kernel)⟩
theorem fl_X12_132 : awFld "AlarmTowerModel" 132 13 46 := ⟨by decide, by decide, awBig_tab (n := 1218) (by decide +kernel) (by decide +kernel)⟩
theorem fl_X12_135 : awFld "AlarmTowerModel" 135 13 47 := ⟨by decide, by decide, awBig_tab (n := 1219) (by decide +kernel) (by decide +kernel)⟩
theorem fl_X12_138 : awFld "AlarmTowerModel" 138 13 49 := ⟨by decide, by decide, awBig_tab (n := 1221) (by decide +kernel) (by decide +kernel)⟩
theorem fl_X12_141 : awFld "AlarmTowerModel" 141 13 50 := ⟨by decide, by decide, awBig_tab (n := 1222) (by decide +kernel) (by decide +kernel)⟩
theorem fl_X12_144 : awFld "AlarmTowerModel" 144 13 51 := ⟨by decide, by decide, awBig_tab (n := 1223) (by decide +kernel) (by decide +kernel)⟩
theorem fl_X12_147 : awFld "AlarmTowerModel" 147 13 54 := ⟨by decide, by decide, awBig_tab (n := 1226) (by decide +kernel) (by decide +kernel)⟩
theorem fl_X12_150 : awFld "AlarmTowerModel" 150 13 55 := ⟨by decide, by decide, awBig_tab (n := 1227) (by decide +kernel) (by decide +kernel)⟩
theorem fl_X12_153 : awFld "AlarmTowerModel" 153 13 56 := ⟨by decide, by decide, awBig_tab (n := 1228) (by decide +kernel) (by decide +kernel)⟩
theorem fl_X12_156 : awFld "AlarmTowerModel" 156 13 57 := ⟨by decide, by decide, awBig_tab (n := 1229) (by decide +kernel) (by decide +kernel)⟩
theorem fl_X12_159 : awFld "AlarmTowerModel" 159 13 59 := ⟨by decide, by decide, awBig_tab (n := 1231) (by decide +kernel) (by decide +kernel)⟩
theorem fl_X12_162 : awFld "AlarmTowerModel" 162 13 60 := ⟨by decide, by decide, awBig_tab (n := 1232) (by decide +kernel) (by decide +kernel)⟩
theorem fl_X12_165 : awFld "AlarmTowerModel" 165 13 61 := ⟨by decide, by decide, awBig_tab (n := 1233) (by decide +kernel) (by decide +kernel)⟩
theorem fl_X12_168 : awFld "AlarmTowerModel" 168 13 62 := ⟨by decide, by decide, awBig_tab (n := 1234) (by decide +kernel) (by decide +kernel)⟩
theorem fl_X12_171 : awFld "AlarmTowerModel" 171 13 64 := ⟨by decide, by decide, awBig_tab (n := 1236) (by decide +kernel) (by decide +kernel)⟩
theorem fl_X12_174 : awFld "AlarmTowerModel" 174 13 65 := ⟨by decide, by decide, awBig_tab (n := 1237) (by decide +kernel) (by decide +kernel)⟩
theorem fl_X12_177 : awFld "AlarmTowerModel" 177 13 66 := ⟨by decide, by decide, awBig_tab (n := 1238) (by decide +kernel) (by decide +kernel)⟩
theorem fl_X12_180 : awFld "AlarmTowerModel" 180 13 67 := ⟨by decide, by decide, awBig_tab (n := 1239) (by decide +kernel) (by decide +kernel)⟩
theorem fl_X12_183 : awFld "AlarmTowerModel" 183 13 68 := ⟨by decide, by decide, awBig_tab (n := 1240) (by decide +kernel) (by decide +kernel)⟩
theorem fl_X12_186 : awFld "AlarmTowerModel" 186 13 69 := ⟨by decide, by decide, awBig_tab (n := 1241) (by decide +kernel) (by decide +kernel)⟩
theorem fl_X12_189 : awFld "AlarmTowerModel" 189 13 70 := ⟨by decide, by decide, awBig_tab (n := 1242) (by decide +kernel) (by decide +kernel)⟩
theorem fl_X12_192 : awFld "AlarmTowerModel" 192 13 71 := ⟨by decide, by decide, awBig_tab (n := 1243) (by decide +kernel) (by decide +kernel)⟩
theorem fl_X12_195 : awFld "AlarmTowerModel" 195 13 72 := ⟨by decide, by decide, awBig_tab (n := 1244) (by decide +kernel) (by decide +kernel)⟩
theorem fl_X12_198 : awFld "AlarmTowerModel" 198 13 73 := ⟨by decide, by decide, awBig_tab (n := 1245) (by decide +kernel) (by decide +kernel)⟩
theorem fl_X12_201 : awFld "AlarmTowerModel" 201 13 74 := ⟨by decide, by decide, awBig_tab (n := 1246) (by decide +kernel) (by decide +kernel)⟩
theorem fl_X12_204 : awFld "AlarmTowerModel" 204 13 75 := ⟨by decide, by decide, awBig_tab (n := 1247) (by decide +kernel) (by decide +kernel)⟩
theorem fl_X12_207 : awFld "AlarmTowerModel" 207 13 76 := ⟨by decide, by decide, awBig_tab (n := 1248) (by decide +kernel) (by decide +kernel)⟩
theorem fl_X12_210 : awFld "AlarmTowerModel" 210 13 77 := ⟨by decide, by decide, awBig_tab (n := 1249) (by decide +kernel) (by decide +kernel)⟩
theorem fl_X12_213 : awFld "AlarmTowerModel" 213 13 79 := ⟨by decide, by decide, awBig_tab (n := 1251) (by decide +kernel) (by decide +kernel)⟩
theorem fl_X12_216 : awFld "AlarmTowerModel" 216 13 80 := ⟨by decide, by decide, awBig_tab (n := 1252) (by decide +kernel) (by decide +kernel)⟩
theorem fl_X12_219 : awFld "AlarmTowerModel" 219 13 81 := ⟨by decide, by decide, awBig_tab (n := 1253) (by decide +kernel) (by decide +kernel)⟩
theorem fl_X12_222 : awFld "AlarmTowerModel" 222 13 82 := ⟨by decide, by decide, awBig_tab (n := 1254) (by decide +kernel) (by decide +kernel)⟩
theorem fl_X12_225 : awFld "AlarmTowerModel" 225 13 83 := ⟨by decide, by decide, awBig_tab (n := 1255) (by decide +kernel) (by decide +kernel)⟩
theorem fl_X12_228 : awFld "AlarmTowerModel" 228 13 0 := ⟨by decide, by decide, awBig_tab (n := 1172) (by decide +kernel) (by decide +kernel)⟩
theorem fl_X12_231 : awFld "AlarmTowerModel" 231 13 2 := ⟨by decide, by decide, awBig_tab (n := 1174) (by decide +kernel) (by decide +kernel)⟩
theorem fl_X12_234 : awFld "AlarmTowerModel" 234 13 6 := ⟨by decide, by decide, awBig_tab (n := 1178) (by decide +kernel) (by decide +kernel)⟩
theorem fl_X12_237 : awFld "AlarmTowerModel" 237 13 52 := ⟨by decide, by decide, awBig_tab (n := 1224) (by decide +kernel) (by decide +kernel)⟩
theorem fl_X12_262 : awFld "AlarmTowerModel" 262 13 1 := ⟨by decide, by decide, awBig_tab (n := 1173) (by decide +kernel) (by decide +kernel)⟩
theorem fl_X12_265 : awFld "AlarmTowerModel" 265 13 21 := ⟨by decide, by decide, awBig_tab (n := 1193) (by decide +kernel) (by decide +kernel)⟩
theorem fl_X12_279 : awFld "AlarmTowerModel" 279 13 25 := ⟨by decide, by decide, awBig_tab (n := 1197) (by decide +kernel) (by decide +kernel)⟩
theorem fl_X12_284 : awFld "AlarmTowerModel" 284 13 30 := ⟨by decide, by decide, awBig_tab (n := 1202) (by decide +kernel) (by decide +kernel)⟩
theorem fl_X12_293 : awFld "AlarmTowerModel" 293 13 53 := ⟨by decide, by decide, awBig_tab (n := 1225) (by decide +kernel) (by decide +kernel)⟩
theorem fl_X12_296 : awFld "AlarmTowerModel" 296 13 58 := ⟨by decide, by decide, awBig_tab (n := 1230) (by decide +kernel) (by decide +kernel)⟩
theorem fl_X12_333 : awFld "AlarmTowerModel" 333 13 48 := ⟨by decide, by decide, awBig_tab (n := 1220) (by decide +kernel) (by decide +kernel)⟩
theorem fl_X12_356 : awFld "AlarmTowerModel" 356 13 78 := ⟨by decide, by decide, awBig_tab (n := 1250) (by decide +kernel) (by decide +kernel)⟩
theorem fl_X12_362 : awFld "AlarmTowerModel" 362 13 63 := ⟨by decide, by decide, awBig_tab (n := 1235) (by decide +kernel) (by decide +kernel)⟩
theorem fl_J_9 : awFld "java/util/ArrayList" 9 0 1 := ⟨by decide, by decide, awBig_tab (n := 50) (by decide +kernel) (by decide +kernel)⟩
theorem fl_J_48 : awFld "java/util/ArrayList" 48 0 2 := ⟨by decide, by decide, awBig_tab (n := 51) (by decide +kernel) (by decide +kernel)⟩
