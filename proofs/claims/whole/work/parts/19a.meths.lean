def m_X11_shift : awM := (⟨"AlarmTower", "shift", "(IIII)I"⟩, prog_1_method_12_code, 5, (some .int), 8, 192, false)
theorem cb_X11_shift : awCallB m_X11_shift 4 := ⟨awBig_tab (n := 1) (by decide +kernel) (by decide +kernel), awBig_tab (n := 445) (by decide +kernel) (by decide +kernel), by decide, by decide, by decide +kernel⟩
def m_X11_swap : awM := (⟨"AlarmTower", "swap", "(IIII)I"⟩, prog_1_method_13_code, 5, (some .int), 8, 192, false)
theorem cb_X11_swap : awCallB m_X11_swap 4 := ⟨awBig_tab (n := 1) (by decide +kernel) (by decide +kernel), awBig_tab (n := 476) (by decide +kernel) (by decide +kernel), by decide, by decide, by decide +kernel⟩
def m_X11_value : awM := (⟨"AlarmTower", "value", "(ID)I"⟩, prog_1_method_14_code, 7, (some .int), 4, 85, false)
theorem cb_X11_value : awCallB m_X11_value 2 := ⟨awBig_tab (n := 1) (by decide +kernel) (by decide +kernel), awBig_tab (n := 505) (by decide +kernel) (by decide +kernel), by decide, by decide, by decide +kernel⟩
def m_X11_tear : awM := (⟨"AlarmTower", "tear", "(I)I"⟩, prog_1_method_15_code, 4, (some .int), 4, 85, false)
theorem cb_X11_tear : awCallB m_X11_tear 1 := ⟨awBig_tab (n := 1) (by decide +kernel) (by decide +kernel), awBig_tab (n := 526) (by decide +kernel) (by decide +kernel), by decide, by decide, by decide +kernel⟩
def m_X11_tick : awM := (⟨"AlarmTower", "tick", "()I"⟩, prog_1_method_16_code, 3, (some .int), 11, 267, false)
theorem cb_X11_tick : awCallB m_X11_tick 0 := ⟨awBig_tab (n := 1) (by decide +kernel) (by decide +kernel), awBig_tab (n := 534) (by decide +kernel) (by decide +kernel), by decide, by decide, by decide +kernel⟩
def m_X11_lookByRules : awM := (⟨"AlarmTower", "lookByRules", "(I)V"⟩, prog_1_method_17_code, 5, none, 10, 243, false)
theorem cb_X11_lookByRules : awCallB m_X11_lookByRules 1 := ⟨awBig_tab (n := 1) (by decide +kernel) (by decide +kernel), awBig_tab (n := 538) (by decide +kernel) (by decide +kernel), by decide, by decide, by decide +kernel⟩
def m_X11_lookAt : awM := (⟨"AlarmTower", "lookAt", "(LAlarmTower$Rule;LAlarmTower$Source;I)V"⟩, prog_1_method_18_code, 6, none, 9, 218, false)
theorem cb_X11_lookAt : awCallB m_X11_lookAt 3 := ⟨awBig_tab (n := 1) (by decide +kernel) (by decide +kernel), awBig_tab (n := 542) (by decide +kernel) (by decide +kernel), by decide, by decide, by decide +kernel⟩
def m_X11_truthOfBoth : awM := (⟨"AlarmTower", "truthOfBoth", "(LAlarmTower$Rule;LAlarmTower$Source;)I"⟩, prog_1_method_19_code, 5, (some .int), 5, 108, false)
theorem cb_X11_truthOfBoth : awCallB m_X11_truthOfBoth 2 := ⟨awBig_tab (n := 1) (by decide +kernel) (by decide +kernel), awBig_tab (n := 554) (by decide +kernel) (by decide +kernel), by decide, by decide, by decide +kernel⟩
def m_X11_beginAlarm : awM := (⟨"AlarmTower", "beginAlarm", "(LAlarmTower$Rule;LAlarmTower$Source;LAlarmTower$Watch;I)V"⟩, prog_1_method_20_code, 5, none, 8, 194, false)
theorem cb_X11_beginAlarm : awCallB m_X11_beginAlarm 4 := ⟨awBig_tab (n := 1) (by decide +kernel) (by decide +kernel), awBig_tab (n := 607) (by decide +kernel) (by decide +kernel), by decide, by decide, by decide +kernel⟩
def m_X11_groupOf : awM := (⟨"AlarmTower", "groupOf", "(LAlarmTower$Rule;LAlarmTower$Source;)LAlarmTower$Group;"⟩, prog_1_method_21_code, 4, (some (.object "AlarmTower$Group")), 7, 171, false)
theorem cb_X11_groupOf : awCallB m_X11_groupOf 2 := ⟨awBig_tab (n := 1) (by decide +kernel) (by decide +kernel), awBig_tab (n := 613) (by decide +kernel) (by decide +kernel), by decide, by decide, by decide +kernel⟩
def m_X11_markAlarms : awM := (⟨"AlarmTower", "markAlarms", "(I)V"⟩, prog_1_method_22_code, 4, none, 5, 112, false)
theorem cb_X11_markAlarms : awCallB m_X11_markAlarms 1 := ⟨awBig_tab (n := 1) (by decide +kernel) (by decide +kernel), awBig_tab (n := 716) (by decide +kernel) (by decide +kernel), by decide, by decide, by decide +kernel⟩
def m_X11_isHeld : awM := (⟨"AlarmTower", "isHeld", "(LAlarmTower$Alarm;)Z"⟩, prog_1_method_23_code, 4, (some .boolean), 4, 89, false)
theorem cb_X11_isHeld : awCallB m_X11_isHeld 1 := ⟨awBig_tab (n := 1) (by decide +kernel) (by decide +kernel), awBig_tab (n := 724) (by decide +kernel) (by decide +kernel), by decide, by decide, by decide +kernel⟩
def m_X11_lastsLike : awM := (⟨"AlarmTower", "lastsLike", "(LAlarmTower$Rule;LAlarmTower$Source;I)Z"⟩, prog_1_method_24_code, 6, (some .boolean), 3, 64, false)
theorem cb_X11_lastsLike : awCallB m_X11_lastsLike 3 := ⟨awBig_tab (n := 1) (by decide +kernel) (by decide +kernel), awBig_tab (n := 732) (by decide +kernel) (by decide +kernel), by decide, by decide, by decide +kernel⟩
def m_X11_isLike : awM := (⟨"AlarmTower", "isLike", "(LAlarmTower$Source;LAlarmTower$Source;I)Z"⟩, prog_1_method_25_code, 3, (some .boolean), 0, 0, false)
theorem cb_X11_isLike : awCallB m_X11_isLike 3 := ⟨awBig_tab (n := 1) (by decide +kernel) (by decide +kernel), awBig_tab (n := 735) (by decide +kernel) (by decide +kernel), by decide, by decide, by decide +kernel⟩
def m_X11_isSilenced : awM := (⟨"AlarmTower", "isSilenced", "(LAlarmTower$Alarm;I)Z"⟩, prog_1_method_26_code, 4, (some .boolean), 3, 64, false)
theorem cb_X11_isSilenced : awCallB m_X11_isSilenced 2 := ⟨awBig_tab (n := 1) (by decide +kernel) (by decide +kernel), awBig_tab (n := 739) (by decide +kernel) (by decide +kernel), by decide, by decide, by decide +kernel⟩
def m_X11_climbRows : awM := (⟨"AlarmTower", "climbRows", "(I)V"⟩, prog_1_method_27_code, 3, none, 3, 64, false)
theorem cb_X11_climbRows : awCallB m_X11_climbRows 1 := ⟨awBig_tab (n := 1) (by decide +kernel) (by decide +kernel), awBig_tab (n := 751) (by decide +kernel) (by decide +kernel), by decide, by decide, by decide +kernel⟩
def m_X11_sendLetters : awM := (⟨"AlarmTower", "sendLetters", "(I)I"⟩, prog_1_method_28_code, 5, (some .int), 8, 197, false)
theorem cb_X11_sendLetters : awCallB m_X11_sendLetters 1 := ⟨awBig_tab (n := 1) (by decide +kernel) (by decide +kernel), awBig_tab (n := 769) (by decide +kernel) (by decide +kernel), by decide, by decide, by decide +kernel⟩
def m_X11_lookByGroups : awM := (⟨"AlarmTower", "lookByGroups", "()V"⟩, prog_1_method_29_code, 2, none, 3, 64, false)
theorem cb_X11_lookByGroups : awCallB m_X11_lookByGroups 0 := ⟨awBig_tab (n := 1) (by decide +kernel) (by decide +kernel), awBig_tab (n := 773) (by decide +kernel) (by decide +kernel), by decide, by decide, by decide +kernel⟩
def m_X11_reasonOf : awM := (⟨"AlarmTower", "reasonOf", "(LAlarmTower$Group;I)I"⟩, prog_1_method_30_code, 3, (some .int), 1, 20, false)
theorem cb_X11_reasonOf : awCallB m_X11_reasonOf 2 := ⟨awBig_tab (n := 1) (by decide +kernel) (by decide +kernel), awBig_tab (n := 795) (by decide +kernel) (by decide +kernel), by decide, by decide, by decide +kernel⟩
def m_X11_sendLetter : awM := (⟨"AlarmTower", "sendLetter", "(LAlarmTower$Group;II)V"⟩, prog_1_method_31_code, 7, none, 7, 171, false)
theorem cb_X11_sendLetter : awCallB m_X11_sendLetter 3 := ⟨awBig_tab (n := 1) (by decide +kernel) (by decide +kernel), awBig_tab (n := 803) (by decide +kernel) (by decide +kernel), by decide, by decide, by decide +kernel⟩
def m_X11_truth : awM := (⟨"AlarmTower", "truth", "(II)I"⟩, prog_1_method_32_code, 4, (some .int), 5, 108, false)
theorem cb_X11_truth : awCallB m_X11_truth 2 := ⟨awBig_tab (n := 1) (by decide +kernel) (by decide +kernel), awBig_tab (n := 911) (by decide +kernel) (by decide +kernel), by decide, by decide, by decide +kernel⟩
def m_X11_counts : awM := (⟨"AlarmTower", "counts", "(III)I"⟩, prog_1_method_33_code, 5, (some .int), 5, 108, false)
theorem cb_X11_counts : awCallB m_X11_counts 3 := ⟨awBig_tab (n := 1) (by decide +kernel) (by decide +kernel), awBig_tab (n := 915) (by decide +kernel) (by decide +kernel), by decide, by decide, by decide +kernel⟩
def m_X11_alarm : awM := (⟨"AlarmTower", "alarm", "(II)I"⟩, prog_1_method_34_code, 4, (some .int), 4, 85, false)
theorem cb_X11_alarm : awCallB m_X11_alarm 2 := ⟨awBig_tab (n := 1) (by decide +kernel) (by decide +kernel), awBig_tab (n := 919) (by decide +kernel) (by decide +kernel), by decide, by decide, by decide +kernel⟩
def m_X11_letter : awM := (⟨"AlarmTower", "letter", "(II)I"⟩, prog_1_method_35_code, 4, (some .int), 4, 85, false)
theorem cb_X11_letter : awCallB m_X11_letter 2 := ⟨awBig_tab (n := 1) (by decide +kernel) (by decide +kernel), awBig_tab (n := 927) (by decide +kernel) (by decide +kernel), by decide, by decide, by decide +kernel⟩
def m_X11_holds : awM := (⟨"AlarmTower", "holds", "(II)I"⟩, prog_1_method_36_code, 4, (some .int), 4, 85, false)
theorem cb_X11_holds : awCallB m_X11_holds 2 := ⟨awBig_tab (n := 1) (by decide +kernel) (by decide +kernel), awBig_tab (n := 943) (by decide +kernel) (by decide +kernel), by decide, by decide, by decide +kernel⟩
def m_X11_why : awM := (⟨"AlarmTower", "why", "(I)I"⟩, prog_1_method_37_code, 3, (some .int), 4, 85, false)
theorem cb_X11_why : awCallB m_X11_why 1 := ⟨awBig_tab (n := 1) (by decide +kernel) (by decide +kernel), awBig_tab (n := 947) (by decide +kernel) (by decide +kernel), by decide, by decide, by decide +kernel⟩
def m_X11_whyNot : awM := (⟨"AlarmTower", "whyNot", "(II)I"⟩, prog_1_method_38_code, 4, (some .int), 5, 108, false)
theorem cb_X11_whyNot : awCallB m_X11_whyNot 2 := ⟨awBig_tab (n := 1) (by decide +kernel) (by decide +kernel), awBig_tab (n := 951) (by decide +kernel) (by decide +kernel), by decide, by decide, by decide +kernel⟩
def m_X11_awake : awM := (⟨"AlarmTower", "awake", "(II)I"⟩, prog_1_method_39_code, 4, (some .int), 5, 112, false)
theorem cb_X11_awake : awCallB m_X11_awake 2 := ⟨awBig_tab (n := 1) (by decide +kernel) (by decide +kernel), awBig_tab (n := 956) (by decide +kernel) (by decide +kernel), by decide, by decide, by decide +kernel⟩
def m_X11_answer : awM := (⟨"AlarmTower", "answer", "(II)I"⟩, prog_1_method_40_code, 4, (some .int), 4, 85, false)
theorem cb_X11_answer : awCallB m_X11_answer 2 := ⟨awBig_tab (n := 1) (by decide +kernel) (by decide +kernel), awBig_tab (n := 960) (by decide +kernel) (by decide +kernel), by decide, by decide, by decide +kernel⟩
def m_X11_noise : awM := (⟨"AlarmTower", "noise", "(I)I"⟩, prog_1_method_41_code, 4, (some .int), 3, 64, false)
theorem cb_X11_noise : awCallB m_X11_noise 1 := ⟨awBig_tab (n := 1) (by decide +kernel) (by decide +kernel), awBig_tab (n := 969) (by decide +kernel) (by decide +kernel), by decide, by decide, by decide +kernel⟩
def m_X11_flap : awM := (⟨"AlarmTower", "flap", "(II)I"⟩, prog_1_method_42_code, 7, (some .int), 4, 85, false)
theorem cb_X11_flap : awCallB m_X11_flap 2 := ⟨awBig_tab (n := 1) (by decide +kernel) (by decide +kernel), awBig_tab (n := 973) (by decide +kernel) (by decide +kernel), by decide, by decide, by decide +kernel⟩
def m_X11_least : awM := (⟨"AlarmTower", "least", "(II)I"⟩, prog_1_method_43_code, 4, (some .int), 4, 85, false)
theorem cb_X11_least : awCallB m_X11_least 2 := ⟨awBig_tab (n := 1) (by decide +kernel) (by decide +kernel), awBig_tab (n := 978) (by decide +kernel) (by decide +kernel), by decide, by decide, by decide +kernel⟩
def m_X11_count : awM := (⟨"AlarmTower", "count", "(I)I"⟩, prog_1_method_44_code, 2, (some .int), 4, 86, false)
theorem cb_X11_count : awCallB m_X11_count 1 := ⟨awBig_tab (n := 1) (by decide +kernel) (by decide +kernel), awBig_tab (n := 986) (by decide +kernel) (by decide +kernel), by decide, by decide, by decide +kernel⟩
def m_X11_lastingCount : awM := (⟨"AlarmTower", "lastingCount", "()I"⟩, prog_1_method_45_code, 3, (some .int), 3, 64, false)
theorem cb_X11_lastingCount : awCallB m_X11_lastingCount 0 := ⟨awBig_tab (n := 1) (by decide +kernel) (by decide +kernel), awBig_tab (n := 990) (by decide +kernel) (by decide +kernel), by decide, by decide, by decide +kernel⟩
def m_X11_unansweredCount : awM := (⟨"AlarmTower", "unansweredCount", "()I"⟩, prog_1_method_46_code, 3, (some .int), 3, 64, false)
theorem cb_X11_unansweredCount : awCallB m_X11_unansweredCount 0 := ⟨awBig_tab (n := 1) (by decide +kernel) (by decide +kernel), awBig_tab (n := 994) (by decide +kernel) (by decide +kernel), by decide, by decide, by decide +kernel⟩
def m_X11_keep : awM := (⟨"AlarmTower", "keep", "(III)I"⟩, prog_1_method_47_code, 5, (some .int), 4, 85, false)
theorem cb_X11_keep : awCallB m_X11_keep 3 := ⟨awBig_tab (n := 1) (by decide +kernel) (by decide +kernel), awBig_tab (n := 998) (by decide +kernel) (by decide +kernel), by decide, by decide, by decide +kernel⟩
def m_X11_keepAlarm : awM := (⟨"AlarmTower", "keepAlarm", "(LAlarmTower$Board;LAlarmTower$Alarm;)I"⟩, prog_1_method_48_code, 2, (some .int), 1, 21, false)
theorem cb_X11_keepAlarm : awCallB m_X11_keepAlarm 2 := ⟨awBig_tab (n := 1) (by decide +kernel) (by decide +kernel), awBig_tab (n := 1009) (by decide +kernel) (by decide +kernel), by decide, by decide, by decide +kernel⟩
def m_X11_keepRow : awM := (⟨"AlarmTower", "keepRow", "(LAlarmTower$Board;ILAlarmTower$Source;)I"⟩, prog_1_method_49_code, 7, (some .int), 2, 46, false)
theorem cb_X11_keepRow : awCallB m_X11_keepRow 3 := ⟨awBig_tab (n := 1) (by decide +kernel) (by decide +kernel), awBig_tab (n := 1017) (by decide +kernel) (by decide +kernel), by decide, by decide, by decide +kernel⟩
def m_X11_make : awM := (⟨"AlarmTower", "make", "(III)I"⟩, prog_1_method_50_code, 5, (some .int), 2, 46, false)
theorem cb_X11_make : awCallB m_X11_make 3 := ⟨awBig_tab (n := 1) (by decide +kernel) (by decide +kernel), awBig_tab (n := 1035) (by decide +kernel) (by decide +kernel), by decide, by decide, by decide +kernel⟩
def m_X11_element : awM := (⟨"AlarmTower", "element", "(II)J"⟩, prog_1_method_51_code, 4, (some .long), 1, 22, false)
theorem cb_X11_element : awCallB m_X11_element 2 := ⟨awBig_tab (n := 1) (by decide +kernel) (by decide +kernel), awBig_tab (n := 1143) (by decide +kernel) (by decide +kernel), by decide, by decide, by decide +kernel⟩
def m_X11_copy : awM := (⟨"AlarmTower", "copy", "(IIIII)I"⟩, prog_1_method_52_code, 8, (some .int), 1, 40, false)
theorem cb_X11_copy : awCallB m_X11_copy 5 := ⟨awBig_tab (n := 1) (by decide +kernel) (by decide +kernel), awBig_tab (n := 1039) (by decide +kernel) (by decide +kernel), by decide, by decide, by decide +kernel⟩
def m_X11_weight : awM := (⟨"AlarmTower", "weight", "(I)I"⟩, prog_1_method_53_code, 6, (some .int), 2, 43, false)
theorem cb_X11_weight : awCallB m_X11_weight 1 := ⟨awBig_tab (n := 1) (by decide +kernel) (by decide +kernel), awBig_tab (n := 1052) (by decide +kernel) (by decide +kernel), by decide, by decide, by decide +kernel⟩
def m_X11_throwFailure : awM := (⟨"AlarmTower", "throwFailure", "(LAlarmTower$Alarm;)V"⟩, prog_1_method_55_code, 1, none, 0, 0, false)
theorem cb_X11_throwFailure : awCallB m_X11_throwFailure 1 := ⟨awBig_tab (n := 1) (by decide +kernel) (by decide +kernel), awBig_tab (n := 1068) (by decide +kernel) (by decide +kernel), by decide, by decide, by decide +kernel⟩
def m_X11_refusalOfAlarm : awM := (⟨"AlarmTower", "refusalOfAlarm", "(I)I"⟩, prog_1_method_56_code, 3, (some .int), 1, 21, false)
theorem cb_X11_refusalOfAlarm : awCallB m_X11_refusalOfAlarm 1 := ⟨awBig_tab (n := 1) (by decide +kernel) (by decide +kernel), awBig_tab (n := 1056) (by decide +kernel) (by decide +kernel), by decide, by decide, by decide +kernel⟩
def m_X11_alarmOn : awM := (⟨"AlarmTower", "alarmOn", "(I)LAlarmTower$Alarm;"⟩, prog_1_method_57_code, 3, (some (.object "AlarmTower$Alarm")), 1, 21, false)
theorem cb_X11_alarmOn : awCallB m_X11_alarmOn 1 := ⟨awBig_tab (n := 1) (by decide +kernel) (by decide +kernel), awBig_tab (n := 1060) (by decide +kernel) (by decide +kernel), by decide, by decide, by decide +kernel⟩
def m_X11_isWithin : awM := (⟨"AlarmTower", "isWithin", "(III)Z"⟩, prog_1_method_58_code, 3, (some .boolean), 0, 0, false)
theorem cb_X11_isWithin : awCallB m_X11_isWithin 3 := ⟨awBig_tab (n := 1) (by decide +kernel) (by decide +kernel), awBig_tab (n := 168) (by decide +kernel) (by decide +kernel), by decide, by decide, by decide +kernel⟩
def m_X11_areTicks : awM := (⟨"AlarmTower", "areTicks", "(II)Z"⟩, prog_1_method_59_code, 2, (some .boolean), 0, 0, false)
theorem cb_X11_areTicks : awCallB m_X11_areTicks 2 := ⟨awBig_tab (n := 1) (by decide +kernel) (by decide +kernel), awBig_tab (n := 402) (by decide +kernel) (by decide +kernel), by decide, by decide, by decide +kernel⟩
def m_X11_bit : awM := (⟨"AlarmTower", "bit", "(Z)I"⟩, prog_1_method_60_code, 1, (some .int), 0, 0, false)
theorem cb_X11_bit : awCallB m_X11_bit 1 := ⟨awBig_tab (n := 1) (by decide +kernel) (by decide +kernel), awBig_tab (n := 522) (by decide +kernel) (by decide +kernel), by decide, by decide, by decide +kernel⟩
def m_X11_sourceAt : awM := (⟨"AlarmTower", "sourceAt", "(I)LAlarmTower$Source;"⟩, prog_1_method_61_code, 2, (some (.object "AlarmTower$Source")), 3, 64, false)
theorem cb_X11_sourceAt : awCallB m_X11_sourceAt 1 := ⟨awBig_tab (n := 1) (by decide +kernel) (by decide +kernel), awBig_tab (n := 509) (by decide +kernel) (by decide +kernel), by decide, by decide, by decide +kernel⟩
def m_X11_ruleAt : awM := (⟨"AlarmTower", "ruleAt", "(I)LAlarmTower$Rule;"⟩, prog_1_method_62_code, 2, (some (.object "AlarmTower$Rule")), 3, 64, false)
theorem cb_X11_ruleAt : awCallB m_X11_ruleAt 1 := ⟨awBig_tab (n := 1) (by decide +kernel) (by decide +kernel), awBig_tab (n := 369) (by decide +kernel) (by decide +kernel), by decide, by decide, by decide +kernel⟩
def m_X11_alarmAt : awM := (⟨"AlarmTower", "alarmAt", "(I)LAlarmTower$Alarm;"⟩, prog_1_method_63_code, 2, (some (.object "AlarmTower$Alarm")), 3, 64, false)
theorem cb_X11_alarmAt : awCallB m_X11_alarmAt 1 := ⟨awBig_tab (n := 1) (by decide +kernel) (by decide +kernel), awBig_tab (n := 923) (by decide +kernel) (by decide +kernel), by decide, by decide, by decide +kernel⟩
def m_X11_letterAt : awM := (⟨"AlarmTower", "letterAt", "(I)LAlarmTower$Letter;"⟩, prog_1_method_64_code, 2, (some (.object "AlarmTower$Letter")), 3, 64, false)
theorem cb_X11_letterAt : awCallB m_X11_letterAt 1 := ⟨awBig_tab (n := 1) (by decide +kernel) (by decide +kernel), awBig_tab (n := 931) (by decide +kernel) (by decide +kernel), by decide, by decide, by decide +kernel⟩
def m_X11_boardAt : awM := (⟨"AlarmTower", "boardAt", "(I)LAlarmTower$Board;"⟩, prog_1_method_65_code, 2, (some (.object "AlarmTower$Board")), 0, 0, false)
theorem cb_X11_boardAt : awCallB m_X11_boardAt 1 := ⟨awBig_tab (n := 1) (by decide +kernel) (by decide +kernel), awBig_tab (n := 1002) (by decide +kernel) (by decide +kernel), by decide, by decide, by decide +kernel⟩
def m_X11_watchOf : awM := (⟨"AlarmTower", "watchOf", "(II)LAlarmTower$Watch;"⟩, prog_1_method_66_code, 4, (some (.object "AlarmTower$Watch")), 4, 85, false)
theorem cb_X11_watchOf : awCallB m_X11_watchOf 2 := ⟨awBig_tab (n := 1) (by decide +kernel) (by decide +kernel), awBig_tab (n := 558) (by decide +kernel) (by decide +kernel), by decide, by decide, by decide +kernel⟩
def m_X12_init : awM := (⟨"AlarmTowerModel", "<init>", "()V"⟩, prog_14_method_1_code, 2, none, 1, 20, true)
theorem cb_X12_init : awCallB m_X12_init 0 := ⟨awBig_tab (n := 7) (by decide +kernel) (by decide +kernel), awBig_tab (n := 1169) (by decide +kernel) (by decide +kernel), by decide, by decide, by decide +kernel⟩
def m_X12_thrown : awM := (⟨"AlarmTowerModel", "thrown", "()I"⟩, prog_14_method_2_code, 1, (some .int), 0, 0, false)
theorem cb_X12_thrown : awCallB m_X12_thrown 0 := ⟨awBig_tab (n := 7) (by decide +kernel) (by decide +kernel), awBig_tab (n := 1428) (by decide +kernel) (by decide +kernel), by decide, by decide, by decide +kernel⟩
def m_X12_isIn : awM := (⟨"AlarmTowerModel", "isIn", "(JJJ)Z"⟩, prog_14_method_3_code, 6, (some .boolean), 0, 0, false)
theorem cb_X12_isIn : awCallB m_X12_isIn 3 := ⟨awBig_tab (n := 7) (by decide +kernel) (by decide +kernel), awBig_tab (n := 1436) (by decide +kernel) (by decide +kernel), by decide, by decide, by decide +kernel⟩
def m_X12_isSource : awM := (⟨"AlarmTowerModel", "isSource", "(I)Z"⟩, prog_14_method_4_code, 2, (some .boolean), 0, 0, false)
theorem cb_X12_isSource : awCallB m_X12_isSource 1 := ⟨awBig_tab (n := 7) (by decide +kernel) (by decide +kernel), awBig_tab (n := 1500) (by decide +kernel) (by decide +kernel), by decide, by decide, by decide +kernel⟩
def m_X12_isRule : awM := (⟨"AlarmTowerModel", "isRule", "(I)Z"⟩, prog_14_method_5_code, 2, (some .boolean), 0, 0, false)
theorem cb_X12_isRule : awCallB m_X12_isRule 1 := ⟨awBig_tab (n := 7) (by decide +kernel) (by decide +kernel), awBig_tab (n := 1450) (by decide +kernel) (by decide +kernel), by decide, by decide, by decide +kernel⟩
def m_X12_isHand : awM := (⟨"AlarmTowerModel", "isHand", "(I)Z"⟩, prog_14_method_6_code, 2, (some .boolean), 0, 0, false)
theorem cb_X12_isHand : awCallB m_X12_isHand 1 := ⟨awBig_tab (n := 7) (by decide +kernel) (by decide +kernel), awBig_tab (n := 1468) (by decide +kernel) (by decide +kernel), by decide, by decide, by decide +kernel⟩
def m_X12_source : awM := (⟨"AlarmTowerModel", "source", "(I)I"⟩, prog_14_method_7_code, 2, (some .int), 1, 25, false)
theorem cb_X12_source : awCallB m_X12_source 1 := ⟨awBig_tab (n := 7) (by decide +kernel) (by decide +kernel), awBig_tab (n := 1432) (by decide +kernel) (by decide +kernel), by decide, by decide, by decide +kernel⟩
def m_X12_rule : awM := (⟨"AlarmTowerModel", "rule", "(IJIII)I"⟩, prog_14_method_8_code, 13, (some .int), 1, 25, false)
theorem cb_X12_rule : awCallB m_X12_rule 5 := ⟨awBig_tab (n := 7) (by decide +kernel) (by decide +kernel), awBig_tab (n := 1440) (by decide +kernel) (by decide +kernel), by decide, by decide, by decide +kernel⟩
def m_X12_holdsAll : awM := (⟨"AlarmTowerModel", "holdsAll", "(II)Z"⟩, prog_14_method_9_code, 5, (some .boolean), 0, 0, false)
theorem cb_X12_holdsAll : awCallB m_X12_holdsAll 2 := ⟨awBig_tab (n := 7) (by decide +kernel) (by decide +kernel), awBig_tab (n := 1459) (by decide +kernel) (by decide +kernel), by decide, by decide, by decide +kernel⟩
def m_X12_hold : awM := (⟨"AlarmTowerModel", "hold", "(III)I"⟩, prog_14_method_10_code, 4, (some .int), 1, 25, false)
theorem cb_X12_hold : awCallB m_X12_hold 3 := ⟨awBig_tab (n := 7) (by decide +kernel) (by decide +kernel), awBig_tab (n := 1454) (by decide +kernel) (by decide +kernel), by decide, by decide, by decide +kernel⟩
def m_X12_silence : awM := (⟨"AlarmTowerModel", "silence", "(IIIII)I"⟩, prog_14_method_11_code, 7, (some .int), 1, 25, false)
theorem cb_X12_silence : awCallB m_X12_silence 5 := ⟨awBig_tab (n := 7) (by decide +kernel) (by decide +kernel), awBig_tab (n := 1463) (by decide +kernel) (by decide +kernel), by decide, by decide, by decide +kernel⟩
def m_X12_mask : awM := (⟨"AlarmTowerModel", "mask", "(I)I"⟩, prog_14_method_12_code, 2, (some .int), 1, 25, false)
theorem cb_X12_mask : awCallB m_X12_mask 1 := ⟨awBig_tab (n := 7) (by decide +kernel) (by decide +kernel), awBig_tab (n := 1472) (by decide +kernel) (by decide +kernel), by decide, by decide, by decide +kernel⟩
def m_X12_waits : awM := (⟨"AlarmTowerModel", "waits", "(IIII)I"⟩, prog_14_method_13_code, 5, (some .int), 1, 25, false)
theorem cb_X12_waits : awCallB m_X12_waits 4 := ⟨awBig_tab (n := 7) (by decide +kernel) (by decide +kernel), awBig_tab (n := 1477) (by decide +kernel) (by decide +kernel), by decide, by decide, by decide +kernel⟩
def m_X12_hand : awM := (⟨"AlarmTowerModel", "hand", "()I"⟩, prog_14_method_14_code, 1, (some .int), 0, 0, false)
theorem cb_X12_hand : awCallB m_X12_hand 0 := ⟨awBig_tab (n := 7) (by decide +kernel) (by decide +kernel), awBig_tab (n := 1482) (by decide +kernel) (by decide +kernel), by decide, by decide, by decide +kernel⟩
def m_X12_shift : awM := (⟨"AlarmTowerModel", "shift", "(IIII)I"⟩, prog_14_method_15_code, 5, (some .int), 1, 25, false)
theorem cb_X12_shift : awCallB m_X12_shift 4 := ⟨awBig_tab (n := 7) (by decide +kernel) (by decide +kernel), awBig_tab (n := 1486) (by decide +kernel) (by decide +kernel), by decide, by decide, by decide +kernel⟩
def m_X12_swap : awM := (⟨"AlarmTowerModel", "swap", "(IIII)I"⟩, prog_14_method_16_code, 5, (some .int), 1, 25, false)
theorem cb_X12_swap : awCallB m_X12_swap 4 := ⟨awBig_tab (n := 7) (by decide +kernel) (by decide +kernel), awBig_tab (n := 1492) (by decide +kernel) (by decide +kernel), by decide, by decide, by decide +kernel⟩
def m_X12_value : awM := (⟨"AlarmTowerModel", "value", "(ID)I"⟩, prog_14_method_17_code, 6, (some .int), 1, 21, false)
theorem cb_X12_value : awCallB m_X12_value 2 := ⟨awBig_tab (n := 7) (by decide +kernel) (by decide +kernel), awBig_tab (n := 1496) (by decide +kernel) (by decide +kernel), by decide, by decide, by decide +kernel⟩
def m_X12_tear : awM := (⟨"AlarmTowerModel", "tear", "(I)I"⟩, prog_14_method_18_code, 4, (some .int), 1, 21, false)
theorem cb_X12_tear : awCallB m_X12_tear 1 := ⟨awBig_tab (n := 7) (by decide +kernel) (by decide +kernel), awBig_tab (n := 1506) (by decide +kernel) (by decide +kernel), by decide, by decide, by decide +kernel⟩
def m_X12_has : awM := (⟨"AlarmTowerModel", "has", "(II)Z"⟩, prog_14_method_19_code, 3, (some .boolean), 0, 0, false)
theorem cb_X12_has : awCallB m_X12_has 2 := ⟨awBig_tab (n := 7) (by decide +kernel) (by decide +kernel), awBig_tab (n := 1526) (by decide +kernel) (by decide +kernel), by decide, by decide, by decide +kernel⟩
def m_X12_countOf : awM := (⟨"AlarmTowerModel", "countOf", "(IIIZJ)I"⟩, prog_14_method_20_code, 9, (some .int), 1, 22, false)
theorem cb_X12_countOf : awCallB m_X12_countOf 5 := ⟨awBig_tab (n := 7) (by decide +kernel) (by decide +kernel), awBig_tab (n := 1522) (by decide +kernel) (by decide +kernel), by decide, by decide, by decide +kernel⟩
def m_X12_isPart : awM := (⟨"AlarmTowerModel", "isPart", "(IIII)Z"⟩, prog_14_method_21_code, 5, (some .boolean), 2, 50, false)
theorem cb_X12_isPart : awCallB m_X12_isPart 4 := ⟨awBig_tab (n := 7) (by decide +kernel) (by decide +kernel), awBig_tab (n := 1538) (by decide +kernel) (by decide +kernel), by decide, by decide, by decide +kernel⟩
def m_X12_middle : awM := (⟨"AlarmTowerModel", "middle", "(IIII)J"⟩, prog_14_method_22_code, 14, (some .long), 1, 22, false)
theorem cb_X12_middle : awCallB m_X12_middle 4 := ⟨awBig_tab (n := 7) (by decide +kernel) (by decide +kernel), awBig_tab (n := 1546) (by decide +kernel) (by decide +kernel), by decide, by decide, by decide +kernel⟩
def m_X12_odd : awM := (⟨"AlarmTowerModel", "odd", "(IIIJ)I"⟩, prog_14_method_23_code, 11, (some .int), 2, 55, false)
theorem cb_X12_odd : awCallB m_X12_odd 4 := ⟨awBig_tab (n := 7) (by decide +kernel) (by decide +kernel), awBig_tab (n := 1542) (by decide +kernel) (by decide +kernel), by decide, by decide, by decide +kernel⟩
def m_X12_both : awM := (⟨"AlarmTowerModel", "both", "(II)I"⟩, prog_14_method_24_code, 3, (some .int), 0, 0, false)
theorem cb_X12_both : awCallB m_X12_both 2 := ⟨awBig_tab (n := 7) (by decide +kernel) (by decide +kernel), awBig_tab (n := 1534) (by decide +kernel) (by decide +kernel), by decide, by decide, by decide +kernel⟩
def m_X12_found : awM := (⟨"AlarmTowerModel", "found", "(III)I"⟩, prog_14_method_25_code, 6, (some .int), 3, 85, false)
theorem cb_X12_found : awCallB m_X12_found 3 := ⟨awBig_tab (n := 7) (by decide +kernel) (by decide +kernel), awBig_tab (n := 1518) (by decide +kernel) (by decide +kernel), by decide, by decide, by decide +kernel⟩
def m_X12_truthAt : awM := (⟨"AlarmTowerModel", "truthAt", "(III)I"⟩, prog_14_method_26_code, 4, (some .int), 0, 0, false)
theorem cb_X12_truthAt : awCallB m_X12_truthAt 3 := ⟨awBig_tab (n := 7) (by decide +kernel) (by decide +kernel), awBig_tab (n := 1530) (by decide +kernel) (by decide +kernel), by decide, by decide, by decide +kernel⟩
