def m_X12_groupOf : awM := (⟨"AlarmTowerModel", "groupOf", "(II)I"⟩, prog_14_method_27_code, 6, (some .int), 0, 0, false)
theorem cb_X12_groupOf : awCallB m_X12_groupOf 2 := ⟨awBig_tab (n := 7) (by decide +kernel) (by decide +kernel), awBig_tab (n := 1554) (by decide +kernel) (by decide +kernel), by decide, by decide, by decide +kernel⟩
def m_X12_begin : awM := (⟨"AlarmTowerModel", "begin", "(III)V"⟩, prog_14_method_28_code, 5, none, 1, 25, false)
theorem cb_X12_begin : awCallB m_X12_begin 3 := ⟨awBig_tab (n := 7) (by decide +kernel) (by decide +kernel), awBig_tab (n := 1550) (by decide +kernel) (by decide +kernel), by decide, by decide, by decide +kernel⟩
def m_X12_judge : awM := (⟨"AlarmTowerModel", "judge", "(III)V"⟩, prog_14_method_29_code, 6, none, 4, 110, false)
theorem cb_X12_judge : awCallB m_X12_judge 3 := ⟨awBig_tab (n := 7) (by decide +kernel) (by decide +kernel), awBig_tab (n := 1514) (by decide +kernel) (by decide +kernel), by decide, by decide, by decide +kernel⟩
def m_X12_held : awM := (⟨"AlarmTowerModel", "held", "(I)Z"⟩, prog_14_method_30_code, 5, (some .boolean), 0, 0, false)
theorem cb_X12_held : awCallB m_X12_held 1 := ⟨awBig_tab (n := 7) (by decide +kernel) (by decide +kernel), awBig_tab (n := 1562) (by decide +kernel) (by decide +kernel), by decide, by decide, by decide +kernel⟩
def m_X12_silenced : awM := (⟨"AlarmTowerModel", "silenced", "(II)Z"⟩, prog_14_method_31_code, 5, (some .boolean), 1, 25, false)
theorem cb_X12_silenced : awCallB m_X12_silenced 2 := ⟨awBig_tab (n := 7) (by decide +kernel) (by decide +kernel), awBig_tab (n := 1566) (by decide +kernel) (by decide +kernel), by decide, by decide, by decide +kernel⟩
def m_X12_clearAll : awM := (⟨"AlarmTowerModel", "clearAll", "(I)V"⟩, prog_14_method_32_code, 4, none, 2, 49, false)
theorem cb_X12_clearAll : awCallB m_X12_clearAll 1 := ⟨awBig_tab (n := 7) (by decide +kernel) (by decide +kernel), awBig_tab (n := 1558) (by decide +kernel) (by decide +kernel), by decide, by decide, by decide +kernel⟩
def m_X12_place : awM := (⟨"AlarmTowerModel", "place", "(I)V"⟩, prog_14_method_33_code, 4, none, 1, 25, false)
theorem cb_X12_place : awCallB m_X12_place 1 := ⟨awBig_tab (n := 7) (by decide +kernel) (by decide +kernel), awBig_tab (n := 1590) (by decide +kernel) (by decide +kernel), by decide, by decide, by decide +kernel⟩
def m_X12_stepOf : awM := (⟨"AlarmTowerModel", "stepOf", "(II)I"⟩, prog_14_method_34_code, 6, (some .int), 0, 0, false)
theorem cb_X12_stepOf : awCallB m_X12_stepOf 2 := ⟨awBig_tab (n := 7) (by decide +kernel) (by decide +kernel), awBig_tab (n := 1594) (by decide +kernel) (by decide +kernel), by decide, by decide, by decide +kernel⟩
def m_X12_wake : awM := (⟨"AlarmTowerModel", "wake", "(I)V"⟩, prog_14_method_35_code, 4, none, 2, 48, false)
theorem cb_X12_wake : awCallB m_X12_wake 1 := ⟨awBig_tab (n := 7) (by decide +kernel) (by decide +kernel), awBig_tab (n := 1586) (by decide +kernel) (by decide +kernel), by decide, by decide, by decide +kernel⟩
def m_X12_reason : awM := (⟨"AlarmTowerModel", "reason", "(II)I"⟩, prog_14_method_36_code, 8, (some .int), 0, 0, false)
theorem cb_X12_reason : awCallB m_X12_reason 2 := ⟨awBig_tab (n := 7) (by decide +kernel) (by decide +kernel), awBig_tab (n := 1574) (by decide +kernel) (by decide +kernel), by decide, by decide, by decide +kernel⟩
def m_X12_write : awM := (⟨"AlarmTowerModel", "write", "(II)V"⟩, prog_14_method_37_code, 3, none, 0, 0, false)
theorem cb_X12_write : awCallB m_X12_write 2 := ⟨awBig_tab (n := 7) (by decide +kernel) (by decide +kernel), awBig_tab (n := 1582) (by decide +kernel) (by decide +kernel), by decide, by decide, by decide +kernel⟩
def m_X12_send : awM := (⟨"AlarmTowerModel", "send", "(III)V"⟩, prog_14_method_38_code, 6, none, 3, 71, false)
theorem cb_X12_send : awCallB m_X12_send 3 := ⟨awBig_tab (n := 7) (by decide +kernel) (by decide +kernel), awBig_tab (n := 1578) (by decide +kernel) (by decide +kernel), by decide, by decide, by decide +kernel⟩
def m_X12_goUp : awM := (⟨"AlarmTowerModel", "goUp", "(I)V"⟩, prog_14_method_39_code, 3, none, 0, 0, false)
theorem cb_X12_goUp : awCallB m_X12_goUp 1 := ⟨awBig_tab (n := 7) (by decide +kernel) (by decide +kernel), awBig_tab (n := 1570) (by decide +kernel) (by decide +kernel), by decide, by decide, by decide +kernel⟩
def m_X12_tick : awM := (⟨"AlarmTowerModel", "tick", "()I"⟩, prog_14_method_40_code, 5, (some .int), 5, 135, false)
theorem cb_X12_tick : awCallB m_X12_tick 0 := ⟨awBig_tab (n := 7) (by decide +kernel) (by decide +kernel), awBig_tab (n := 1510) (by decide +kernel) (by decide +kernel), by decide, by decide, by decide +kernel⟩
def m_X12_truth : awM := (⟨"AlarmTowerModel", "truth", "(II)I"⟩, prog_14_method_41_code, 3, (some .int), 1, 23, false)
theorem cb_X12_truth : awCallB m_X12_truth 2 := ⟨awBig_tab (n := 7) (by decide +kernel) (by decide +kernel), awBig_tab (n := 1598) (by decide +kernel) (by decide +kernel), by decide, by decide, by decide +kernel⟩
def m_X12_counts : awM := (⟨"AlarmTowerModel", "counts", "(III)I"⟩, prog_14_method_42_code, 5, (some .int), 1, 25, false)
theorem cb_X12_counts : awCallB m_X12_counts 3 := ⟨awBig_tab (n := 7) (by decide +kernel) (by decide +kernel), awBig_tab (n := 1602) (by decide +kernel) (by decide +kernel), by decide, by decide, by decide +kernel⟩
def m_X12_alarm : awM := (⟨"AlarmTowerModel", "alarm", "(II)I"⟩, prog_14_method_43_code, 3, (some .int), 0, 0, false)
theorem cb_X12_alarm : awCallB m_X12_alarm 2 := ⟨awBig_tab (n := 7) (by decide +kernel) (by decide +kernel), awBig_tab (n := 1606) (by decide +kernel) (by decide +kernel), by decide, by decide, by decide +kernel⟩
def m_X12_isLetter : awM := (⟨"AlarmTowerModel", "isLetter", "(I)Z"⟩, prog_14_method_44_code, 2, (some .boolean), 0, 0, false)
theorem cb_X12_isLetter : awCallB m_X12_isLetter 1 := ⟨awBig_tab (n := 7) (by decide +kernel) (by decide +kernel), awBig_tab (n := 1614) (by decide +kernel) (by decide +kernel), by decide, by decide, by decide +kernel⟩
def m_X12_letter : awM := (⟨"AlarmTowerModel", "letter", "(II)I"⟩, prog_14_method_45_code, 3, (some .int), 1, 21, false)
theorem cb_X12_letter : awCallB m_X12_letter 2 := ⟨awBig_tab (n := 7) (by decide +kernel) (by decide +kernel), awBig_tab (n := 1610) (by decide +kernel) (by decide +kernel), by decide, by decide, by decide +kernel⟩
def m_X12_holds : awM := (⟨"AlarmTowerModel", "holds", "(II)I"⟩, prog_14_method_46_code, 3, (some .int), 1, 21, false)
theorem cb_X12_holds : awCallB m_X12_holds 2 := ⟨awBig_tab (n := 7) (by decide +kernel) (by decide +kernel), awBig_tab (n := 1618) (by decide +kernel) (by decide +kernel), by decide, by decide, by decide +kernel⟩
def m_X12_why : awM := (⟨"AlarmTowerModel", "why", "(I)I"⟩, prog_14_method_47_code, 2, (some .int), 1, 21, false)
theorem cb_X12_why : awCallB m_X12_why 1 := ⟨awBig_tab (n := 7) (by decide +kernel) (by decide +kernel), awBig_tab (n := 1622) (by decide +kernel) (by decide +kernel), by decide, by decide, by decide +kernel⟩
def m_X12_whyNot : awM := (⟨"AlarmTowerModel", "whyNot", "(II)I"⟩, prog_14_method_48_code, 4, (some .int), 1, 21, false)
theorem cb_X12_whyNot : awCallB m_X12_whyNot 2 := ⟨awBig_tab (n := 7) (by decide +kernel) (by decide +kernel), awBig_tab (n := 1626) (by decide +kernel) (by decide +kernel), by decide, by decide, by decide +kernel⟩
def m_X12_awake : awM := (⟨"AlarmTowerModel", "awake", "(II)I"⟩, prog_14_method_49_code, 3, (some .int), 3, 71, false)
theorem cb_X12_awake : awCallB m_X12_awake 2 := ⟨awBig_tab (n := 7) (by decide +kernel) (by decide +kernel), awBig_tab (n := 1630) (by decide +kernel) (by decide +kernel), by decide, by decide, by decide +kernel⟩
def m_X12_wentTo : awM := (⟨"AlarmTowerModel", "wentTo", "(II)Z"⟩, prog_14_method_50_code, 5, (some .boolean), 0, 0, false)
theorem cb_X12_wentTo : awCallB m_X12_wentTo 2 := ⟨awBig_tab (n := 7) (by decide +kernel) (by decide +kernel), awBig_tab (n := 1638) (by decide +kernel) (by decide +kernel), by decide, by decide, by decide +kernel⟩
def m_X12_answer : awM := (⟨"AlarmTowerModel", "answer", "(II)I"⟩, prog_14_method_51_code, 4, (some .int), 1, 24, false)
theorem cb_X12_answer : awCallB m_X12_answer 2 := ⟨awBig_tab (n := 7) (by decide +kernel) (by decide +kernel), awBig_tab (n := 1634) (by decide +kernel) (by decide +kernel), by decide, by decide, by decide +kernel⟩
def m_X12_noise : awM := (⟨"AlarmTowerModel", "noise", "(I)I"⟩, prog_14_method_52_code, 4, (some .int), 1, 24, false)
theorem cb_X12_noise : awCallB m_X12_noise 1 := ⟨awBig_tab (n := 7) (by decide +kernel) (by decide +kernel), awBig_tab (n := 1642) (by decide +kernel) (by decide +kernel), by decide, by decide, by decide +kernel⟩
def m_X12_flap : awM := (⟨"AlarmTowerModel", "flap", "(II)I"⟩, prog_14_method_53_code, 5, (some .int), 1, 25, false)
theorem cb_X12_flap : awCallB m_X12_flap 2 := ⟨awBig_tab (n := 7) (by decide +kernel) (by decide +kernel), awBig_tab (n := 1646) (by decide +kernel) (by decide +kernel), by decide, by decide, by decide +kernel⟩
def m_X12_least : awM := (⟨"AlarmTowerModel", "least", "(II)I"⟩, prog_14_method_54_code, 10, (some .int), 1, 25, false)
theorem cb_X12_least : awCallB m_X12_least 2 := ⟨awBig_tab (n := 7) (by decide +kernel) (by decide +kernel), awBig_tab (n := 1651) (by decide +kernel) (by decide +kernel), by decide, by decide, by decide +kernel⟩
def m_X12_count : awM := (⟨"AlarmTowerModel", "count", "(I)I"⟩, prog_14_method_55_code, 4, (some .int), 0, 0, false)
theorem cb_X12_count : awCallB m_X12_count 1 := ⟨awBig_tab (n := 7) (by decide +kernel) (by decide +kernel), awBig_tab (n := 1655) (by decide +kernel) (by decide +kernel), by decide, by decide, by decide +kernel⟩
def m_X12_isBoard : awM := (⟨"AlarmTowerModel", "isBoard", "(I)Z"⟩, prog_14_method_56_code, 1, (some .boolean), 0, 0, false)
theorem cb_X12_isBoard : awCallB m_X12_isBoard 1 := ⟨awBig_tab (n := 7) (by decide +kernel) (by decide +kernel), awBig_tab (n := 1662) (by decide +kernel) (by decide +kernel), by decide, by decide, by decide +kernel⟩
def m_X12_keep : awM := (⟨"AlarmTowerModel", "keep", "(III)I"⟩, prog_14_method_57_code, 7, (some .int), 1, 25, false)
theorem cb_X12_keep : awCallB m_X12_keep 3 := ⟨awBig_tab (n := 7) (by decide +kernel) (by decide +kernel), awBig_tab (n := 1659) (by decide +kernel) (by decide +kernel), by decide, by decide, by decide +kernel⟩
def m_X12_make : awM := (⟨"AlarmTowerModel", "make", "(III)I"⟩, prog_14_method_58_code, 5, (some .int), 1, 25, false)
theorem cb_X12_make : awCallB m_X12_make 3 := ⟨awBig_tab (n := 7) (by decide +kernel) (by decide +kernel), awBig_tab (n := 1667) (by decide +kernel) (by decide +kernel), by decide, by decide, by decide +kernel⟩
def m_X12_element : awM := (⟨"AlarmTowerModel", "element", "(II)J"⟩, prog_14_method_59_code, 4, (some .long), 1, 25, false)
theorem cb_X12_element : awCallB m_X12_element 2 := ⟨awBig_tab (n := 7) (by decide +kernel) (by decide +kernel), awBig_tab (n := 1672) (by decide +kernel) (by decide +kernel), by decide, by decide, by decide +kernel⟩
def m_X12_hasPlaces : awM := (⟨"AlarmTowerModel", "hasPlaces", "(III)Z"⟩, prog_14_method_60_code, 4, (some .boolean), 0, 0, false)
theorem cb_X12_hasPlaces : awCallB m_X12_hasPlaces 3 := ⟨awBig_tab (n := 7) (by decide +kernel) (by decide +kernel), awBig_tab (n := 1680) (by decide +kernel) (by decide +kernel), by decide, by decide, by decide +kernel⟩
def m_X12_copy : awM := (⟨"AlarmTowerModel", "copy", "(IIIII)I"⟩, prog_14_method_61_code, 7, (some .int), 1, 23, false)
theorem cb_X12_copy : awCallB m_X12_copy 5 := ⟨awBig_tab (n := 7) (by decide +kernel) (by decide +kernel), awBig_tab (n := 1676) (by decide +kernel) (by decide +kernel), by decide, by decide, by decide +kernel⟩
def m_X12_denied : awM := (⟨"AlarmTowerModel", "denied", "(I)I"⟩, prog_14_method_62_code, 2, (some .int), 1, 20, false)
theorem cb_X12_denied : awCallB m_X12_denied 1 := ⟨awBig_tab (n := 7) (by decide +kernel) (by decide +kernel), awBig_tab (n := 1688) (by decide +kernel) (by decide +kernel), by decide, by decide, by decide +kernel⟩
def m_X12_weight : awM := (⟨"AlarmTowerModel", "weight", "(I)I"⟩, prog_14_method_63_code, 4, (some .int), 2, 41, false)
theorem cb_X12_weight : awCallB m_X12_weight 1 := ⟨awBig_tab (n := 7) (by decide +kernel) (by decide +kernel), awBig_tab (n := 1684) (by decide +kernel) (by decide +kernel), by decide, by decide, by decide +kernel⟩
def m_X12_toss : awM := (⟨"AlarmTowerModel", "toss", "(I)I"⟩, prog_14_method_64_code, 3, (some .int), 2, 41, false)
theorem cb_X12_toss : awCallB m_X12_toss 1 := ⟨awBig_tab (n := 7) (by decide +kernel) (by decide +kernel), awBig_tab (n := 1692) (by decide +kernel) (by decide +kernel), by decide, by decide, by decide +kernel⟩
def m_J9_floorMod_7cf53 : awM := (⟨"java/lang/Math", "floorMod", "(II)I"⟩, prog_21_method_50_code, 3, (some .int), 0, 0, false)
theorem cb_J9_floorMod_7cf53 : awCallB m_J9_floorMod_7cf53 2 := ⟨awBig_tab (n := 10) (by decide +kernel) (by decide +kernel), awBig_tab (n := 902) (by decide +kernel) (by decide +kernel), by decide, by decide, by decide +kernel⟩
def m_J9_abs_067f4 : awM := (⟨"java/lang/Math", "abs", "(J)J"⟩, prog_21_method_61_code, 2, (some .long), 0, 0, false)
theorem cb_J9_abs_067f4 : awCallB m_J9_abs_067f4 1 := ⟨awBig_tab (n := 10) (by decide +kernel) (by decide +kernel), awBig_tab (n := 592) (by decide +kernel) (by decide +kernel), by decide, by decide, by decide +kernel⟩
def m_J9_max_7cf53 : awM := (⟨"java/lang/Math", "max", "(II)I"⟩, prog_21_method_65_code, 2, (some .int), 0, 0, false)
theorem cb_J9_max_7cf53 : awCallB m_J9_max_7cf53 2 := ⟨awBig_tab (n := 10) (by decide +kernel) (by decide +kernel), awBig_tab (n := 219) (by decide +kernel) (by decide +kernel), by decide, by decide, by decide +kernel⟩
def m_J9_max_f86c9 : awM := (⟨"java/lang/Math", "max", "(JJ)J"⟩, prog_21_method_66_code, 4, (some .long), 0, 0, false)
theorem cb_J9_max_f86c9 : awCallB m_J9_max_f86c9 2 := ⟨awBig_tab (n := 10) (by decide +kernel) (by decide +kernel), awBig_tab (n := 595) (by decide +kernel) (by decide +kernel), by decide, by decide, by decide +kernel⟩
def m_J9_min_7cf53 : awM := (⟨"java/lang/Math", "min", "(II)I"⟩, prog_21_method_69_code, 2, (some .int), 0, 0, false)
theorem cb_J9_min_7cf53 : awCallB m_J9_min_7cf53 2 := ⟨awBig_tab (n := 10) (by decide +kernel) (by decide +kernel), awBig_tab (n := 255) (by decide +kernel) (by decide +kernel), by decide, by decide, by decide +kernel⟩
def m_Jxa1e45_init_da8c8 : awM := (⟨"java/util/AbstractCollection", "<init>", "()V"⟩, prog_26_method_1_code, 1, none, 1, 20, true)
theorem cb_Jxa1e45_init_da8c8 : awCallB m_Jxa1e45_init_da8c8 0 := ⟨awBig_tab (n := 2) (by decide +kernel) (by decide +kernel), awBig_tab (n := 46) (by decide +kernel) (by decide +kernel), by decide, by decide, by decide +kernel⟩
def m_Jxc12de_init_da8c8 : awM := (⟨"java/util/AbstractList", "<init>", "()V"⟩, prog_27_method_1_code, 1, none, 2, 40, true)
theorem cb_Jxc12de_init_da8c8 : awCallB m_Jxc12de_init_da8c8 0 := ⟨awBig_tab (n := 3) (by decide +kernel) (by decide +kernel), awBig_tab (n := 43) (by decide +kernel) (by decide +kernel), by decide, by decide, by decide +kernel⟩
def m_Jx4a65c_init_da8c8 : awM := (⟨"java/util/ArrayList", "<init>", "()V"⟩, prog_28_method_2_code, 1, none, 3, 60, true)
theorem cb_Jx4a65c_init_da8c8 : awCallB m_Jx4a65c_init_da8c8 0 := ⟨awBig_tab (n := 4) (by decide +kernel) (by decide +kernel), awBig_tab (n := 40) (by decide +kernel) (by decide +kernel), by decide, by decide, by decide +kernel⟩
def m_Jx4a65c_grow_92f84 : awM := (⟨"java/util/ArrayList", "grow", "(I)[Ljava/lang/Object;"⟩, prog_28_method_6_code, 4, (some (.array (.object "java/lang/Object"))), 3, 84, false)
theorem cb_Jx4a65c_grow_92f84 : awCallB m_Jx4a65c_grow_92f84 1 := ⟨awBig_tab (n := 4) (by decide +kernel) (by decide +kernel), awBig_tab (n := 213) (by decide +kernel) (by decide +kernel), by decide, by decide, by decide +kernel⟩
def m_Jx4a65c_grow_d5877 : awM := (⟨"java/util/ArrayList", "grow", "()[Ljava/lang/Object;"⟩, prog_28_method_7_code, 1, (some (.array (.object "java/lang/Object"))), 4, 107, false)
theorem cb_Jx4a65c_grow_d5877 : awCallB m_Jx4a65c_grow_d5877 0 := ⟨awBig_tab (n := 4) (by decide +kernel) (by decide +kernel), awBig_tab (n := 209) (by decide +kernel) (by decide +kernel), by decide, by decide, by decide +kernel⟩
def m_Jx4a65c_size_8abf5 : awM := (⟨"java/util/ArrayList", "size", "()I"⟩, prog_28_method_8_code, 1, (some .int), 0, 0, false)
theorem cb_Jx4a65c_size_8abf5 : awCallB m_Jx4a65c_size_8abf5 0 := ⟨awBig_tab (n := 4) (by decide +kernel) (by decide +kernel), awBig_tab (n := 172) (by decide +kernel) (by decide +kernel), by decide, by decide, by decide +kernel⟩
def m_Jx4a65c_elementData_915e3 : awM := (⟨"java/util/ArrayList", "elementData", "(I)Ljava/lang/Object;"⟩, prog_28_method_18_code, 2, (some (.object "java/lang/Object")), 0, 0, false)
theorem cb_Jx4a65c_elementData_915e3 : awCallB m_Jx4a65c_elementData_915e3 1 := ⟨awBig_tab (n := 4) (by decide +kernel) (by decide +kernel), awBig_tab (n := 383) (by decide +kernel) (by decide +kernel), by decide, by decide, by decide +kernel⟩
def m_Jx4a65c_get_915e3 : awM := (⟨"java/util/ArrayList", "get", "(I)Ljava/lang/Object;"⟩, prog_28_method_20_code, 2, (some (.object "java/lang/Object")), 2, 43, false)
theorem cb_Jx4a65c_get_915e3 : awCallB m_Jx4a65c_get_915e3 1 := ⟨awBig_tab (n := 4) (by decide +kernel) (by decide +kernel), awBig_tab (n := 373) (by decide +kernel) (by decide +kernel), by decide, by decide, by decide +kernel⟩
def m_Jx4a65c_add_72be8 : awM := (⟨"java/util/ArrayList", "add", "(Ljava/lang/Object;[Ljava/lang/Object;I)V"⟩, prog_28_method_24_code, 4, none, 5, 127, false)
theorem cb_Jx4a65c_add_72be8 : awCallB m_Jx4a65c_add_72be8 3 := ⟨awBig_tab (n := 4) (by decide +kernel) (by decide +kernel), awBig_tab (n := 205) (by decide +kernel) (by decide +kernel), by decide, by decide, by decide +kernel⟩
def m_Jx4a65c_add_9ea2d : awM := (⟨"java/util/ArrayList", "add", "(Ljava/lang/Object;)Z"⟩, prog_28_method_25_code, 2, (some .boolean), 6, 150, false)
theorem cb_Jx4a65c_add_9ea2d : awCallB m_Jx4a65c_add_9ea2d 1 := ⟨awBig_tab (n := 4) (by decide +kernel) (by decide +kernel), awBig_tab (n := 201) (by decide +kernel) (by decide +kernel), by decide, by decide, by decide +kernel⟩
def m_J7_fill_d0a16 : awM := (⟨"java/util/Arrays", "fill", "([JJ)V"⟩, prog_29_method_101_code, 5, none, 0, 0, false)
theorem cb_J7_fill_d0a16 : awCallB m_J7_fill_d0a16 2 := ⟨awBig_tab (n := 11) (by decide +kernel) (by decide +kernel), awBig_tab (n := 1026) (by decide +kernel) (by decide +kernel), by decide, by decide, by decide +kernel⟩
def m_J7_fill_53178 : awM := (⟨"java/util/Arrays", "fill", "([II)V"⟩, prog_29_method_103_code, 4, none, 0, 0, false)
theorem cb_J7_fill_53178 : awCallB m_J7_fill_53178 2 := ⟨awBig_tab (n := 11) (by decide +kernel) (by decide +kernel), awBig_tab (n := 894) (by decide +kernel) (by decide +kernel), by decide, by decide, by decide +kernel⟩
def m_J7_copyOf_1904c : awM := (⟨"java/util/Arrays", "copyOf", "([Ljava/lang/Object;I)[Ljava/lang/Object;"⟩, prog_29_method_119_code, 2, (some (.array (.object "java/lang/Object"))), 2, 63, false)
theorem cb_J7_copyOf_1904c : awCallB m_J7_copyOf_1904c 2 := ⟨awBig_tab (n := 11) (by decide +kernel) (by decide +kernel), awBig_tab (n := 226) (by decide +kernel) (by decide +kernel), by decide, by decide, by decide +kernel⟩
def m_J7_copyOf_6403c : awM := (⟨"java/util/Arrays", "copyOf", "([Ljava/lang/Object;ILjava/lang/Class;)[Ljava/lang/Object;"⟩, prog_29_method_120_code, 4, (some (.array (.object "java/lang/Object"))), 1, 40, false)
theorem cb_J7_copyOf_6403c : awCallB m_J7_copyOf_6403c 3 := ⟨awBig_tab (n := 11) (by decide +kernel) (by decide +kernel), awBig_tab (n := 249) (by decide +kernel) (by decide +kernel), by decide, by decide, by decide +kernel⟩
def m_J15_checkIndex_7cf53 : awM := (⟨"java/util/Objects", "checkIndex", "(II)I"⟩, prog_32_method_17_code, 2, (some .int), 1, 22, false)
theorem cb_J15_checkIndex_7cf53 : awCallB m_J15_checkIndex_7cf53 2 := ⟨awBig_tab (n := 15) (by decide +kernel) (by decide +kernel), awBig_tab (n := 376) (by decide +kernel) (by decide +kernel), by decide, by decide, by decide +kernel⟩
def m_J8_newLength_cabcc : awM := (⟨"jdk/internal/util/ArraysSupport", "newLength", "(III)I"⟩, prog_35_method_27_code, 4, (some .int), 1, 22, false)
theorem cb_J8_newLength_cabcc : awCallB m_J8_newLength_cabcc 3 := ⟨awBig_tab (n := 9) (by decide +kernel) (by decide +kernel), awBig_tab (n := 216) (by decide +kernel) (by decide +kernel), by decide, by decide, by decide +kernel⟩
def m_J8_hugeLength_7cf53 : awM := (⟨"jdk/internal/util/ArraysSupport", "hugeLength", "(II)I"⟩, prog_35_method_28_code, 3, (some .int), 0, 0, false)
theorem cb_J8_hugeLength_7cf53 : awCallB m_J8_hugeLength_7cf53 2 := ⟨awBig_tab (n := 9) (by decide +kernel) (by decide +kernel), awBig_tab (n := 223) (by decide +kernel) (by decide +kernel), by decide, by decide, by decide +kernel⟩
def m_J3_checkIndex_8e157 : awM := (⟨"jdk/internal/util/Preconditions", "checkIndex", "(IILjava/util/function/BiFunction;)I"⟩, prog_36_method_11_code, 3, (some .int), 0, 0, false)
theorem cb_J3_checkIndex_8e157 : awCallB m_J3_checkIndex_8e157 3 := ⟨awBig_tab (n := 16) (by decide +kernel) (by decide +kernel), awBig_tab (n := 379) (by decide +kernel) (by decide +kernel), by decide, by decide, by decide +kernel⟩
theorem ci_X11_9 : awCI "AlarmTower" 9 m_Jx4a65c_init_da8c8 := ⟨awBig_tab (n := 38) (by decide +kernel) (by decide +kernel), awBig_tab (n := 39) (by decide +kernel) (by decide +kernel)⟩
theorem cs_X11_71 : awCS "AlarmTower" 71 m_X11_isWithin := ⟨awBig_tab (n := 166) (by decide +kernel) (by decide +kernel), awBig_tab (n := 167) (by decide +kernel) (by decide +kernel)⟩
theorem cv_X11_75 : awCV "AlarmTower" 75 m_Jx4a65c_size_8abf5 := ⟨awBig_tab (n := 169) (by decide +kernel) (by decide +kernel), awBig_tab (n := 170) (by decide +kernel) (by decide +kernel), awBig_tab (n := 171) (by decide +kernel) (by decide +kernel)⟩
theorem ci_X11_81 : awCI "AlarmTower" 81 m_X8_init := ⟨awBig_tab (n := 175) (by decide +kernel) (by decide +kernel), awBig_tab (n := 176) (by decide +kernel) (by decide +kernel)⟩
theorem cv_X11_84 : awCV "AlarmTower" 84 m_Jx4a65c_add_9ea2d := ⟨awBig_tab (n := 198) (by decide +kernel) (by decide +kernel), awBig_tab (n := 199) (by decide +kernel) (by decide +kernel), awBig_tab (n := 200) (by decide +kernel) (by decide +kernel)⟩
theorem cv_X11_88 : awCV "AlarmTower" 88 m_X11_isLook := ⟨awBig_tab (n := 265) (by decide +kernel) (by decide +kernel), awBig_tab (n := 267) (by decide +kernel) (by decide +kernel), awBig_sel (n := 3) (by decide +kernel) (by decide +kernel)⟩
theorem cs_X11_92 : awCS "AlarmTower" 92 m_X11_isManner := ⟨awBig_tab (n := 269) (by decide +kernel) (by decide +kernel), awBig_tab (n := 270) (by decide +kernel) (by decide +kernel)⟩
theorem ci_X11_98 : awCI "AlarmTower" 98 m_X5_init := ⟨awBig_tab (n := 274) (by decide +kernel) (by decide +kernel), awBig_tab (n := 275) (by decide +kernel) (by decide +kernel)⟩
theorem cv_X11_104 : awCV "AlarmTower" 104 m_X11_ruleAt := ⟨awBig_tab (n := 366) (by decide +kernel) (by decide +kernel), awBig_tab (n := 368) (by decide +kernel) (by decide +kernel), awBig_sel (n := 4) (by decide +kernel) (by decide +kernel)⟩
theorem cv_X11_108 : awCV "AlarmTower" 108 m_X11_isHeldOver := ⟨awBig_tab (n := 384) (by decide +kernel) (by decide +kernel), awBig_tab (n := 386) (by decide +kernel) (by decide +kernel), awBig_sel (n := 5) (by decide +kernel) (by decide +kernel)⟩
theorem cv_X11_112 : awCV "AlarmTower" 112 m_X5_addHolder := ⟨awBig_tab (n := 392) (by decide +kernel) (by decide +kernel), awBig_tab (n := 393) (by decide +kernel) (by decide +kernel), awBig_tab (n := 394) (by decide +kernel) (by decide +kernel)⟩
theorem cv_X11_115 : awCV "AlarmTower" 115 m_Jx4a65c_get_915e3 := ⟨awBig_tab (n := 370) (by decide +kernel) (by decide +kernel), awBig_tab (n := 371) (by decide +kernel) (by decide +kernel), awBig_tab (n := 372) (by decide +kernel) (by decide +kernel)⟩
theorem cv_X11_119 : awCV "AlarmTower" 119 m_X5_holders := ⟨awBig_tab (n := 388) (by decide +kernel) (by decide +kernel), awBig_tab (n := 389) (by decide +kernel) (by decide +kernel), awBig_tab (n := 390) (by decide +kernel) (by decide +kernel)⟩
theorem cs_X11_122 : awCS "AlarmTower" 122 m_X11_areTicks := ⟨awBig_tab (n := 400) (by decide +kernel) (by decide +kernel), awBig_tab (n := 401) (by decide +kernel) (by decide +kernel)⟩
theorem cv_X11_125 : awCV "AlarmTower" 125 m_X4_hasHand := ⟨awBig_tab (n := 403) (by decide +kernel) (by decide +kernel), awBig_tab (n := 404) (by decide +kernel) (by decide +kernel), awBig_tab (n := 405) (by decide +kernel) (by decide +kernel)⟩
theorem ci_X11_130 : awCI "AlarmTower" 130 m_X7_init := ⟨awBig_tab (n := 409) (by decide +kernel) (by decide +kernel), awBig_tab (n := 410) (by decide +kernel) (by decide +kernel)⟩
theorem cv_X11_133 : awCV "AlarmTower" 133 m_X4_addHand := ⟨awBig_tab (n := 438) (by decide +kernel) (by decide +kernel), awBig_tab (n := 439) (by decide +kernel) (by decide +kernel), awBig_tab (n := 440) (by decide +kernel) (by decide +kernel)⟩
theorem ci_X11_138 : awCI "AlarmTower" 138 m_X6_init := ⟨awBig_tab (n := 448) (by decide +kernel) (by decide +kernel), awBig_tab (n := 449) (by decide +kernel) (by decide +kernel)⟩
theorem cv_X11_139 : awCV "AlarmTower" 139 m_X4_addShift := ⟨awBig_tab (n := 467) (by decide +kernel) (by decide +kernel), awBig_tab (n := 468) (by decide +kernel) (by decide +kernel), awBig_tab (n := 469) (by decide +kernel) (by decide +kernel)⟩
theorem ci_X11_145 : awCI "AlarmTower" 145 m_X9_init := ⟨awBig_tab (n := 479) (by decide +kernel) (by decide +kernel), awBig_tab (n := 480) (by decide +kernel) (by decide +kernel)⟩
theorem cv_X11_146 : awCV "AlarmTower" 146 m_X4_addSwap := ⟨awBig_tab (n := 498) (by decide +kernel) (by decide +kernel), awBig_tab (n := 499) (by decide +kernel) (by decide +kernel), awBig_tab (n := 500) (by decide +kernel) (by decide +kernel)⟩
theorem cv_X11_150 : awCV "AlarmTower" 150 m_X11_sourceAt := ⟨awBig_tab (n := 506) (by decide +kernel) (by decide +kernel), awBig_tab (n := 508) (by decide +kernel) (by decide +kernel), awBig_sel (n := 6) (by decide +kernel) (by decide +kernel)⟩
theorem cv_X11_158 : awCV "AlarmTower" 158 m_X8_hasAt := ⟨awBig_tab (n := 512) (by decide +kernel) (by decide +kernel), awBig_tab (n := 513) (by decide +kernel) (by decide +kernel), awBig_tab (n := 514) (by decide +kernel) (by decide +kernel)⟩
theorem cv_X11_161 : awCV "AlarmTower" 161 m_X8_put := ⟨awBig_tab (n := 516) (by decide +kernel) (by decide +kernel), awBig_tab (n := 517) (by decide +kernel) (by decide +kernel), awBig_tab (n := 518) (by decide +kernel) (by decide +kernel)⟩
theorem cs_X11_165 : awCS "AlarmTower" 165 m_X11_bit := ⟨awBig_tab (n := 520) (by decide +kernel) (by decide +kernel), awBig_tab (n := 521) (by decide +kernel) (by decide +kernel)⟩
theorem cv_X11_169 : awCV "AlarmTower" 169 m_X8_drop := ⟨awBig_tab (n := 527) (by decide +kernel) (by decide +kernel), awBig_tab (n := 528) (by decide +kernel) (by decide +kernel), awBig_tab (n := 529) (by decide +kernel) (by decide +kernel)⟩
theorem cv_X11_173 : awCV "AlarmTower" 173 m_X11_lookByRules := ⟨awBig_tab (n := 535) (by decide +kernel) (by decide +kernel), awBig_tab (n := 537) (by decide +kernel) (by decide +kernel), awBig_sel (n := 7) (by decide +kernel) (by decide +kernel)⟩
theorem cv_X11_176 : awCV "AlarmTower" 176 m_X11_markAlarms := ⟨awBig_tab (n := 713) (by decide +kernel) (by decide +kernel), awBig_tab (n := 715) (by decide +kernel) (by decide +kernel), awBig_sel (n := 17) (by decide +kernel) (by decide +kernel)⟩
theorem cv_X11_179 : awCV "AlarmTower" 179 m_X11_climbRows := ⟨awBig_tab (n := 748) (by decide +kernel) (by decide +kernel), awBig_tab (n := 750) (by decide +kernel) (by decide +kernel), awBig_sel (n := 21) (by decide +kernel) (by decide +kernel)⟩
theorem cv_X11_182 : awCV "AlarmTower" 182 m_X11_sendLetters := ⟨awBig_tab (n := 766) (by decide +kernel) (by decide +kernel), awBig_tab (n := 768) (by decide +kernel) (by decide +kernel), awBig_sel (n := 23) (by decide +kernel) (by decide +kernel)⟩
theorem cv_X11_186 : awCV "AlarmTower" 186 m_X11_lookAt := ⟨awBig_tab (n := 539) (by decide +kernel) (by decide +kernel), awBig_tab (n := 541) (by decide +kernel) (by decide +kernel), awBig_sel (n := 8) (by decide +kernel) (by decide +kernel)⟩
theorem cv_X11_191 : awCV "AlarmTower" 191 m_X5_watchAt := ⟨awBig_tab (n := 543) (by decide +kernel) (by decide +kernel), awBig_tab (n := 544) (by decide +kernel) (by decide +kernel), awBig_tab (n := 545) (by decide +kernel) (by decide +kernel)⟩
theorem cv_X11_195 : awCV "AlarmTower" 195 m_X5_looksAt := ⟨awBig_tab (n := 547) (by decide +kernel) (by decide +kernel), awBig_tab (n := 548) (by decide +kernel) (by decide +kernel), awBig_tab (n := 549) (by decide +kernel) (by decide +kernel)⟩
theorem cv_X11_202 : awCV "AlarmTower" 202 m_X11_truthOfBoth := ⟨awBig_tab (n := 551) (by decide +kernel) (by decide +kernel), awBig_tab (n := 553) (by decide +kernel) (by decide +kernel), awBig_sel (n := 9) (by decide +kernel) (by decide +kernel)⟩
theorem cv_X11_206 : awCV "AlarmTower" 206 m_X5_truthOf := ⟨awBig_tab (n := 559) (by decide +kernel) (by decide +kernel), awBig_tab (n := 560) (by decide +kernel) (by decide +kernel), awBig_tab (n := 561) (by decide +kernel) (by decide +kernel)⟩
theorem cv_X11_210 : awCV "AlarmTower" 210 m_X10_note := ⟨awBig_tab (n := 596) (by decide +kernel) (by decide +kernel), awBig_tab (n := 597) (by decide +kernel) (by decide +kernel), awBig_tab (n := 598) (by decide +kernel) (by decide +kernel)⟩
theorem cv_X11_215 : awCV "AlarmTower" 215 m_X5_imagine := ⟨awBig_tab (n := 600) (by decide +kernel) (by decide +kernel), awBig_tab (n := 601) (by decide +kernel) (by decide +kernel), awBig_tab (n := 602) (by decide +kernel) (by decide +kernel)⟩
theorem cv_X11_229 : awCV "AlarmTower" 229 m_X11_beginAlarm := ⟨awBig_tab (n := 604) (by decide +kernel) (by decide +kernel), awBig_tab (n := 606) (by decide +kernel) (by decide +kernel), awBig_sel (n := 15) (by decide +kernel) (by decide +kernel)⟩
