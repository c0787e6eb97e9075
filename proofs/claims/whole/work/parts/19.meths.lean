-- the methods, and what the tables say of their calls
def awCV (own : String) (idx : Nat) (Mc : awM) : Prop := Cond.methodLink own idx (awM_y Mc) ∈ awBig ∧ Cond.instanceMethod (awM_y Mc) ∈ awBig ∧ Cond.selects (awM_y Mc).cls (awM_y Mc) (awM_y Mc) ∈ awBig
def awCS (own : String) (idx : Nat) (Mc : awM) : Prop := Cond.methodLink own idx (awM_y Mc) ∈ awBig ∧ Cond.static (awM_y Mc) ∈ awBig
def awCI (own : String) (idx : Nat) (Mc : awM) : Prop := Cond.methodLink own idx (awM_y Mc) ∈ awBig ∧ Cond.instanceMethod (awM_y Mc) ∈ awBig
def m_X0_init : awM := (⟨"AlarmTower$Alarm", "<init>", "(ILAlarmTower$Rule;LAlarmTower$Source;LAlarmTower$Group;I)V"⟩, prog_2_method_1_code, 6, none, 1, 20, true)
theorem cb_X0_init : awCallB m_X0_init 5 := ⟨awBig_tab (n := 20) (by decide +kernel) (by decide +kernel), awBig_tab (n := 652) (by decide +kernel) (by decide +kernel), by decide, by decide, by decide +kernel⟩
def m_X0_lasts : awM := (⟨"AlarmTower$Alarm", "lasts", "()Z"⟩, prog_2_method_2_code, 1, (some .boolean), 0, 0, false)
theorem cb_X0_lasts : awCallB m_X0_lasts 0 := ⟨awBig_tab (n := 20) (by decide +kernel) (by decide +kernel), awBig_tab (n := 719) (by decide +kernel) (by decide +kernel), by decide, by decide, by decide +kernel⟩
def m_X0_isClear : awM := (⟨"AlarmTower$Alarm", "isClear", "()Z"⟩, prog_2_method_3_code, 1, (some .boolean), 0, 0, false)
theorem cb_X0_isClear : awCallB m_X0_isClear 0 := ⟨awBig_tab (n := 20) (by decide +kernel) (by decide +kernel), awBig_tab (n := 785) (by decide +kernel) (by decide +kernel), by decide, by decide, by decide +kernel⟩
def m_X0_isFresh : awM := (⟨"AlarmTower$Alarm", "isFresh", "()Z"⟩, prog_2_method_4_code, 1, (some .boolean), 1, 20, false)
theorem cb_X0_isFresh : awCallB m_X0_isFresh 0 := ⟨awBig_tab (n := 20) (by decide +kernel) (by decide +kernel), awBig_tab (n := 789) (by decide +kernel) (by decide +kernel), by decide, by decide, by decide +kernel⟩
def m_X0_mark : awM := (⟨"AlarmTower$Alarm", "mark", "(ZZI)V"⟩, prog_2_method_5_code, 4, none, 0, 0, false)
theorem cb_X0_mark : awCallB m_X0_mark 3 := ⟨awBig_tab (n := 20) (by decide +kernel) (by decide +kernel), awBig_tab (n := 746) (by decide +kernel) (by decide +kernel), by decide, by decide, by decide +kernel⟩
def m_X0_end : awM := (⟨"AlarmTower$Alarm", "end", "(I)V"⟩, prog_2_method_6_code, 2, none, 0, 0, false)
theorem cb_X0_end : awCallB m_X0_end 1 := ⟨awBig_tab (n := 20) (by decide +kernel) (by decide +kernel), awBig_tab (n := 711) (by decide +kernel) (by decide +kernel), by decide, by decide, by decide +kernel⟩
def m_X0_tellLasting : awM := (⟨"AlarmTower$Alarm", "tellLasting", "()V"⟩, prog_2_method_7_code, 1, none, 0, 0, false)
theorem cb_X0_tellLasting : awCallB m_X0_tellLasting 0 := ⟨awBig_tab (n := 20) (by decide +kernel) (by decide +kernel), awBig_tab (n := 858) (by decide +kernel) (by decide +kernel), by decide, by decide, by decide +kernel⟩
def m_X0_wantsEndTold : awM := (⟨"AlarmTower$Alarm", "wantsEndTold", "()Z"⟩, prog_2_method_8_code, 1, (some .boolean), 1, 20, false)
theorem cb_X0_wantsEndTold : awCallB m_X0_wantsEndTold 0 := ⟨awBig_tab (n := 20) (by decide +kernel) (by decide +kernel), awBig_tab (n := 862) (by decide +kernel) (by decide +kernel), by decide, by decide, by decide +kernel⟩
def m_X0_tellEnd : awM := (⟨"AlarmTower$Alarm", "tellEnd", "()V"⟩, prog_2_method_9_code, 1, none, 0, 0, false)
theorem cb_X0_tellEnd : awCallB m_X0_tellEnd 0 := ⟨awBig_tab (n := 20) (by decide +kernel) (by decide +kernel), awBig_tab (n := 867) (by decide +kernel) (by decide +kernel), by decide, by decide, by decide +kernel⟩
def m_X1_init : awM := (⟨"AlarmTower$Board", "<init>", "()V"⟩, prog_3_method_1_code, 1, none, 1, 20, true)
theorem cb_X1_init : awCallB m_X1_init 0 := ⟨awBig_tab (n := 6) (by decide +kernel) (by decide +kernel), awBig_tab (n := 92) (by decide +kernel) (by decide +kernel), by decide, by decide, by decide +kernel⟩
def m_X1_keepBare : awM := (⟨"AlarmTower$Board", "keepBare", "(I)V"⟩, prog_3_method_2_code, 2, none, 0, 0, false)
theorem cb_X1_keepBare : awCallB m_X1_keepBare 1 := ⟨awBig_tab (n := 6) (by decide +kernel) (by decide +kernel), awBig_tab (n := 1005) (by decide +kernel) (by decide +kernel), by decide, by decide, by decide +kernel⟩
def m_X1_keepAlarm : awM := (⟨"AlarmTower$Board", "keepAlarm", "(LAlarmTower$Alarm;)V"⟩, prog_3_method_3_code, 2, none, 0, 0, false)
theorem cb_X1_keepAlarm : awCallB m_X1_keepAlarm 1 := ⟨awBig_tab (n := 6) (by decide +kernel) (by decide +kernel), awBig_tab (n := 1012) (by decide +kernel) (by decide +kernel), by decide, by decide, by decide +kernel⟩
def m_X1_keepRow : awM := (⟨"AlarmTower$Board", "keepRow", "(II)V"⟩, prog_3_method_4_code, 3, none, 1, 24, false)
theorem cb_X1_keepRow : awCallB m_X1_keepRow 2 := ⟨awBig_tab (n := 6) (by decide +kernel) (by decide +kernel), awBig_tab (n := 1021) (by decide +kernel) (by decide +kernel), by decide, by decide, by decide +kernel⟩
def m_X1_isRow : awM := (⟨"AlarmTower$Board", "isRow", "()Z"⟩, prog_3_method_5_code, 1, (some .boolean), 0, 0, false)
theorem cb_X1_isRow : awCallB m_X1_isRow 0 := ⟨awBig_tab (n := 6) (by decide +kernel) (by decide +kernel), awBig_tab (n := 1042) (by decide +kernel) (by decide +kernel), by decide, by decide, by decide +kernel⟩
def m_X1_put : awM := (⟨"AlarmTower$Board", "put", "(IJ)V"⟩, prog_3_method_6_code, 4, none, 0, 0, false)
theorem cb_X1_put : awCallB m_X1_put 2 := ⟨awBig_tab (n := 6) (by decide +kernel) (by decide +kernel), awBig_tab (n := 1030) (by decide +kernel) (by decide +kernel), by decide, by decide, by decide +kernel⟩
def m_X1_get : awM := (⟨"AlarmTower$Board", "get", "(I)J"⟩, prog_3_method_7_code, 2, (some .long), 0, 0, false)
theorem cb_X1_get : awCallB m_X1_get 1 := ⟨awBig_tab (n := 6) (by decide +kernel) (by decide +kernel), awBig_tab (n := 1163) (by decide +kernel) (by decide +kernel), by decide, by decide, by decide +kernel⟩
def m_X1_hasSpan : awM := (⟨"AlarmTower$Board", "hasSpan", "(II)Z"⟩, prog_3_method_8_code, 3, (some .boolean), 0, 0, false)
theorem cb_X1_hasSpan : awCallB m_X1_hasSpan 2 := ⟨awBig_tab (n := 6) (by decide +kernel) (by decide +kernel), awBig_tab (n := 1046) (by decide +kernel) (by decide +kernel), by decide, by decide, by decide +kernel⟩
def m_X2_init : awM := (⟨"AlarmTower$Group", "<init>", "(LAlarmTower$Rule;LAlarmTower$Source;)V"⟩, prog_4_method_1_code, 3, none, 1, 20, true)
theorem cb_X2_init : awCallB m_X2_init 2 := ⟨awBig_tab (n := 21) (by decide +kernel) (by decide +kernel), awBig_tab (n := 621) (by decide +kernel) (by decide +kernel), by decide, by decide, by decide +kernel⟩
def m_X2_isAlike : awM := (⟨"AlarmTower$Group", "isAlike", "(LAlarmTower$Rule;LAlarmTower$Source;I)Z"⟩, prog_4_method_2_code, 4, (some .boolean), 0, 0, false)
theorem cb_X2_isAlike : awCallB m_X2_isAlike 3 := ⟨awBig_tab (n := 21) (by decide +kernel) (by decide +kernel), awBig_tab (n := 617) (by decide +kernel) (by decide +kernel), by decide, by decide, by decide +kernel⟩
def m_X2_hasFresh : awM := (⟨"AlarmTower$Group", "hasFresh", "()Z"⟩, prog_4_method_3_code, 1, (some .boolean), 0, 0, false)
theorem cb_X2_hasFresh : awCallB m_X2_hasFresh 0 := ⟨awBig_tab (n := 21) (by decide +kernel) (by decide +kernel), awBig_tab (n := 798) (by decide +kernel) (by decide +kernel), by decide, by decide, by decide +kernel⟩
def m_X2_forget : awM := (⟨"AlarmTower$Group", "forget", "()V"⟩, prog_4_method_4_code, 1, none, 0, 0, false)
theorem cb_X2_forget : awCallB m_X2_forget 0 := ⟨awBig_tab (n := 21) (by decide +kernel) (by decide +kernel), awBig_tab (n := 776) (by decide +kernel) (by decide +kernel), by decide, by decide, by decide +kernel⟩
def m_X2_see : awM := (⟨"AlarmTower$Group", "see", "(LAlarmTower$Alarm;)V"⟩, prog_4_method_5_code, 2, none, 2, 40, false)
theorem cb_X2_see : awCallB m_X2_see 1 := ⟨awBig_tab (n := 21) (by decide +kernel) (by decide +kernel), awBig_tab (n := 780) (by decide +kernel) (by decide +kernel), by decide, by decide, by decide +kernel⟩
def m_X3_init : awM := (⟨"AlarmTower$Letter", "<init>", "(LAlarmTower$Group;II)V"⟩, prog_5_method_1_code, 4, none, 1, 20, true)
theorem cb_X3_init : awCallB m_X3_init 3 := ⟨awBig_tab (n := 22) (by decide +kernel) (by decide +kernel), awBig_tab (n := 805) (by decide +kernel) (by decide +kernel), by decide, by decide, by decide +kernel⟩
def m_X3_add : awM := (⟨"AlarmTower$Letter", "add", "(LAlarmTower$Alarm;)Z"⟩, prog_5_method_2_code, 2, (some .boolean), 0, 0, false)
theorem cb_X3_add : awCallB m_X3_add 1 := ⟨awBig_tab (n := 22) (by decide +kernel) (by decide +kernel), awBig_tab (n := 854) (by decide +kernel) (by decide +kernel), by decide, by decide, by decide +kernel⟩
def m_X3_alarmAt : awM := (⟨"AlarmTower$Letter", "alarmAt", "(I)I"⟩, prog_5_method_3_code, 2, (some .int), 0, 0, false)
theorem cb_X3_alarmAt : awCallB m_X3_alarmAt 1 := ⟨awBig_tab (n := 22) (by decide +kernel) (by decide +kernel), awBig_tab (n := 934) (by decide +kernel) (by decide +kernel), by decide, by decide, by decide +kernel⟩
def m_X3_isAnswered : awM := (⟨"AlarmTower$Letter", "isAnswered", "()Z"⟩, prog_5_method_4_code, 1, (some .boolean), 0, 0, false)
theorem cb_X3_isAnswered : awCallB m_X3_isAnswered 0 := ⟨awBig_tab (n := 22) (by decide +kernel) (by decide +kernel), awBig_tab (n := 759) (by decide +kernel) (by decide +kernel), by decide, by decide, by decide +kernel⟩
def m_X3_isToAll : awM := (⟨"AlarmTower$Letter", "isToAll", "()Z"⟩, prog_5_method_5_code, 1, (some .boolean), 0, 0, false)
theorem cb_X3_isToAll : awCallB m_X3_isToAll 0 := ⟨awBig_tab (n := 22) (by decide +kernel) (by decide +kernel), awBig_tab (n := 764) (by decide +kernel) (by decide +kernel), by decide, by decide, by decide +kernel⟩
def m_X3_latestHand : awM := (⟨"AlarmTower$Letter", "latestHand", "()I"⟩, prog_5_method_6_code, 1, (some .int), 1, 20, false)
theorem cb_X3_latestHand : awCallB m_X3_latestHand 0 := ⟨awBig_tab (n := 22) (by decide +kernel) (by decide +kernel), awBig_tab (n := 938) (by decide +kernel) (by decide +kernel), by decide, by decide, by decide +kernel⟩
def m_X3_climb : awM := (⟨"AlarmTower$Letter", "climb", "(II)V"⟩, prog_5_method_7_code, 3, none, 1, 20, false)
theorem cb_X3_climb : awCallB m_X3_climb 2 := ⟨awBig_tab (n := 22) (by decide +kernel) (by decide +kernel), awBig_tab (n := 755) (by decide +kernel) (by decide +kernel), by decide, by decide, by decide +kernel⟩
def m_X3_wentTo : awM := (⟨"AlarmTower$Letter", "wentTo", "(I)Z"⟩, prog_5_method_8_code, 3, (some .boolean), 1, 20, false)
theorem cb_X3_wentTo : awCallB m_X3_wentTo 1 := ⟨awBig_tab (n := 22) (by decide +kernel) (by decide +kernel), awBig_tab (n := 963) (by decide +kernel) (by decide +kernel), by decide, by decide, by decide +kernel⟩
def m_X4_init : awM := (⟨"AlarmTower$Roster", "<init>", "()V"⟩, prog_6_method_1_code, 1, none, 4, 80, true)
theorem cb_X4_init : awCallB m_X4_init 0 := ⟨awBig_tab (n := 5) (by decide +kernel) (by decide +kernel), awBig_tab (n := 66) (by decide +kernel) (by decide +kernel), by decide, by decide, by decide +kernel⟩
def m_X4_hasHand : awM := (⟨"AlarmTower$Roster", "hasHand", "(I)Z"⟩, prog_6_method_2_code, 2, (some .boolean), 0, 0, false)
theorem cb_X4_hasHand : awCallB m_X4_hasHand 1 := ⟨awBig_tab (n := 5) (by decide +kernel) (by decide +kernel), awBig_tab (n := 405) (by decide +kernel) (by decide +kernel), by decide, by decide, by decide +kernel⟩
def m_X4_addHand : awM := (⟨"AlarmTower$Roster", "addHand", "()I"⟩, prog_6_method_3_code, 1, (some .int), 0, 0, false)
theorem cb_X4_addHand : awCallB m_X4_addHand 0 := ⟨awBig_tab (n := 5) (by decide +kernel) (by decide +kernel), awBig_tab (n := 440) (by decide +kernel) (by decide +kernel), by decide, by decide, by decide +kernel⟩
def m_X4_addShift : awM := (⟨"AlarmTower$Roster", "addShift", "(LAlarmTower$Shift;)I"⟩, prog_6_method_4_code, 2, (some .int), 7, 171, false)
theorem cb_X4_addShift : awCallB m_X4_addShift 1 := ⟨awBig_tab (n := 5) (by decide +kernel) (by decide +kernel), awBig_tab (n := 469) (by decide +kernel) (by decide +kernel), by decide, by decide, by decide +kernel⟩
def m_X4_addSwap : awM := (⟨"AlarmTower$Roster", "addSwap", "(LAlarmTower$Swap;)I"⟩, prog_6_method_5_code, 2, (some .int), 7, 171, false)
theorem cb_X4_addSwap : awCallB m_X4_addSwap 1 := ⟨awBig_tab (n := 5) (by decide +kernel) (by decide +kernel), awBig_tab (n := 500) (by decide +kernel) (by decide +kernel), by decide, by decide, by decide +kernel⟩
def m_X4_fillRow : awM := (⟨"AlarmTower$Roster", "fillRow", "(I[I)I"⟩, prog_6_method_6_code, 6, (some .int), 4, 87, false)
theorem cb_X4_fillRow : awCallB m_X4_fillRow 2 := ⟨awBig_tab (n := 5) (by decide +kernel) (by decide +kernel), awBig_tab (n := 871) (by decide +kernel) (by decide +kernel), by decide, by decide, by decide +kernel⟩
def m_X4_stand : awM := (⟨"AlarmTower$Roster", "stand", "(I)V"⟩, prog_6_method_7_code, 4, none, 3, 64, false)
theorem cb_X4_stand : awCallB m_X4_stand 1 := ⟨awBig_tab (n := 5) (by decide +kernel) (by decide +kernel), awBig_tab (n := 875) (by decide +kernel) (by decide +kernel), by decide, by decide, by decide +kernel⟩
def m_X4_exchange : awM := (⟨"AlarmTower$Roster", "exchange", "(II)V"⟩, prog_6_method_8_code, 4, none, 1, 21, false)
theorem cb_X4_exchange : awCallB m_X4_exchange 2 := ⟨awBig_tab (n := 5) (by decide +kernel) (by decide +kernel), awBig_tab (n := 885) (by decide +kernel) (by decide +kernel), by decide, by decide, by decide +kernel⟩
def m_X4_findSteps : awM := (⟨"AlarmTower$Roster", "findSteps", "(I)V"⟩, prog_6_method_9_code, 4, none, 3, 64, false)
theorem cb_X4_findSteps : awCallB m_X4_findSteps 1 := ⟨awBig_tab (n := 5) (by decide +kernel) (by decide +kernel), awBig_tab (n := 890) (by decide +kernel) (by decide +kernel), by decide, by decide, by decide +kernel⟩
def m_X4_wakeAt : awM := (⟨"AlarmTower$Roster", "wakeAt", "(LAlarmTower$Shift;)V"⟩, prog_6_method_10_code, 3, none, 1, 21, false)
theorem cb_X4_wakeAt : awCallB m_X4_wakeAt 1 := ⟨awBig_tab (n := 5) (by decide +kernel) (by decide +kernel), awBig_tab (n := 905) (by decide +kernel) (by decide +kernel), by decide, by decide, by decide +kernel⟩
def m_X5_init : awM := (⟨"AlarmTower$Rule", "<init>", "(IIJIII)V"⟩, prog_7_method_1_code, 9, none, 2, 40, true)
theorem cb_X5_init : awCallB m_X5_init 6 := ⟨awBig_tab (n := 13) (by decide +kernel) (by decide +kernel), awBig_tab (n := 275) (by decide +kernel) (by decide +kernel), by decide, by decide, by decide +kernel⟩
def m_X5_watchAt : awM := (⟨"AlarmTower$Rule", "watchAt", "(I)LAlarmTower$Watch;"⟩, prog_7_method_2_code, 2, (some (.object "AlarmTower$Watch")), 0, 0, false)
theorem cb_X5_watchAt : awCallB m_X5_watchAt 1 := ⟨awBig_tab (n := 13) (by decide +kernel) (by decide +kernel), awBig_tab (n := 545) (by decide +kernel) (by decide +kernel), by decide, by decide, by decide +kernel⟩
def m_X5_looksAt : awM := (⟨"AlarmTower$Rule", "looksAt", "(LAlarmTower$Source;)Z"⟩, prog_7_method_3_code, 2, (some .boolean), 0, 0, false)
theorem cb_X5_looksAt : awCallB m_X5_looksAt 1 := ⟨awBig_tab (n := 13) (by decide +kernel) (by decide +kernel), awBig_tab (n := 549) (by decide +kernel) (by decide +kernel), by decide, by decide, by decide +kernel⟩
def m_X5_addHolder : awM := (⟨"AlarmTower$Rule", "addHolder", "(II)V"⟩, prog_7_method_4_code, 3, none, 0, 0, false)
theorem cb_X5_addHolder : awCallB m_X5_addHolder 2 := ⟨awBig_tab (n := 13) (by decide +kernel) (by decide +kernel), awBig_tab (n := 394) (by decide +kernel) (by decide +kernel), by decide, by decide, by decide +kernel⟩
def m_X5_isHeldBy : awM := (⟨"AlarmTower$Rule", "isHeldBy", "(II)Z"⟩, prog_7_method_5_code, 3, (some .boolean), 0, 0, false)
theorem cb_X5_isHeldBy : awCallB m_X5_isHeldBy 2 := ⟨awBig_tab (n := 13) (by decide +kernel) (by decide +kernel), awBig_tab (n := 727) (by decide +kernel) (by decide +kernel), by decide, by decide, by decide +kernel⟩
def m_X5_holders : awM := (⟨"AlarmTower$Rule", "holders", "()I"⟩, prog_7_method_6_code, 3, (some .int), 0, 0, false)
theorem cb_X5_holders : awCallB m_X5_holders 0 := ⟨awBig_tab (n := 13) (by decide +kernel) (by decide +kernel), awBig_tab (n := 390) (by decide +kernel) (by decide +kernel), by decide, by decide, by decide +kernel⟩
def m_X5_truthOf : awM := (⟨"AlarmTower$Rule", "truthOf", "(LAlarmTower$Source;LAlarmTower$Watch;I)I"⟩, prog_7_method_7_code, 6, (some .int), 3, 68, false)
theorem cb_X5_truthOf : awCallB m_X5_truthOf 3 := ⟨awBig_tab (n := 13) (by decide +kernel) (by decide +kernel), awBig_tab (n := 561) (by decide +kernel) (by decide +kernel), by decide, by decide, by decide +kernel⟩
def m_X5_isPartAbove : awM := (⟨"AlarmTower$Rule", "isPartAbove", "(LAlarmTower$Source;II)Z"⟩, prog_7_method_8_code, 7, (some .boolean), 2, 42, false)
theorem cb_X5_isPartAbove : awCallB m_X5_isPartAbove 3 := ⟨awBig_tab (n := 13) (by decide +kernel) (by decide +kernel), awBig_tab (n := 576) (by decide +kernel) (by decide +kernel), by decide, by decide, by decide +kernel⟩
def m_X5_isOdd : awM := (⟨"AlarmTower$Rule", "isOdd", "(JI)Z"⟩, prog_7_method_9_code, 7, (some .boolean), 1, 23, false)
theorem cb_X5_isOdd : awCallB m_X5_isOdd 2 := ⟨awBig_tab (n := 13) (by decide +kernel) (by decide +kernel), awBig_tab (n := 588) (by decide +kernel) (by decide +kernel), by decide, by decide, by decide +kernel⟩
def m_X5_sortBefore : awM := (⟨"AlarmTower$Rule", "sortBefore", "(LAlarmTower$Source;I)I"⟩, prog_7_method_10_code, 5, (some .int), 2, 42, false)
theorem cb_X5_sortBefore : awCallB m_X5_sortBefore 2 := ⟨awBig_tab (n := 13) (by decide +kernel) (by decide +kernel), awBig_tab (n := 580) (by decide +kernel) (by decide +kernel), by decide, by decide, by decide +kernel⟩
def m_X5_insert : awM := (⟨"AlarmTower$Rule", "insert", "(JI)V"⟩, prog_7_method_11_code, 5, none, 0, 0, false)
theorem cb_X5_insert : awCallB m_X5_insert 2 := ⟨awBig_tab (n := 13) (by decide +kernel) (by decide +kernel), awBig_tab (n := 584) (by decide +kernel) (by decide +kernel), by decide, by decide, by decide +kernel⟩
def m_X5_imagine : awM := (⟨"AlarmTower$Rule", "imagine", "(LAlarmTower$Watch;)V"⟩, prog_7_method_12_code, 3, none, 0, 0, false)
theorem cb_X5_imagine : awCallB m_X5_imagine 1 := ⟨awBig_tab (n := 13) (by decide +kernel) (by decide +kernel), awBig_tab (n := 602) (by decide +kernel) (by decide +kernel), by decide, by decide, by decide +kernel⟩
def m_X5_begunAt : awM := (⟨"AlarmTower$Rule", "begunAt", "(I)I"⟩, prog_7_method_13_code, 2, (some .int), 0, 0, false)
theorem cb_X5_begunAt : awCallB m_X5_begunAt 1 := ⟨awBig_tab (n := 13) (by decide +kernel) (by decide +kernel), awBig_tab (n := 981) (by decide +kernel) (by decide +kernel), by decide, by decide, by decide +kernel⟩
def m_X6_init : awM := (⟨"AlarmTower$Shift", "<init>", "(IIII)V"⟩, prog_8_method_1_code, 5, none, 1, 20, true)
theorem cb_X6_init : awCallB m_X6_init 4 := ⟨awBig_tab (n := 18) (by decide +kernel) (by decide +kernel), awBig_tab (n := 449) (by decide +kernel) (by decide +kernel), by decide, by decide, by decide +kernel⟩
def m_X6_covers : awM := (⟨"AlarmTower$Shift", "covers", "(I)Z"⟩, prog_8_method_2_code, 2, (some .boolean), 1, 22, false)
theorem cb_X6_covers : awCallB m_X6_covers 1 := ⟨awBig_tab (n := 18) (by decide +kernel) (by decide +kernel), awBig_tab (n := 898) (by decide +kernel) (by decide +kernel), by decide, by decide, by decide +kernel⟩
def m_X7_init : awM := (⟨"AlarmTower$Silence", "<init>", "(IIII)V"⟩, prog_9_method_1_code, 5, none, 1, 20, true)
theorem cb_X7_init : awCallB m_X7_init 4 := ⟨awBig_tab (n := 17) (by decide +kernel) (by decide +kernel), awBig_tab (n := 410) (by decide +kernel) (by decide +kernel), by decide, by decide, by decide +kernel⟩
def m_X7_fits : awM := (⟨"AlarmTower$Silence", "fits", "(LAlarmTower$Alarm;I)Z"⟩, prog_9_method_2_code, 3, (some .boolean), 0, 0, false)
theorem cb_X7_fits : awCallB m_X7_fits 2 := ⟨awBig_tab (n := 17) (by decide +kernel) (by decide +kernel), awBig_tab (n := 742) (by decide +kernel) (by decide +kernel), by decide, by decide, by decide +kernel⟩
def m_X8_init : awM := (⟨"AlarmTower$Source", "<init>", "(II)V"⟩, prog_10_method_1_code, 3, none, 1, 20, true)
theorem cb_X8_init : awCallB m_X8_init 2 := ⟨awBig_tab (n := 12) (by decide +kernel) (by decide +kernel), awBig_tab (n := 239) (by decide +kernel) (by decide +kernel), by decide, by decide, by decide +kernel⟩
def m_X8_hasAt : awM := (⟨"AlarmTower$Source", "hasAt", "(I)Z"⟩, prog_10_method_2_code, 2, (some .boolean), 0, 0, false)
theorem cb_X8_hasAt : awCallB m_X8_hasAt 1 := ⟨awBig_tab (n := 12) (by decide +kernel) (by decide +kernel), awBig_tab (n := 514) (by decide +kernel) (by decide +kernel), by decide, by decide, by decide +kernel⟩
def m_X8_at : awM := (⟨"AlarmTower$Source", "at", "(I)J"⟩, prog_10_method_3_code, 2, (some .long), 1, 21, false)
theorem cb_X8_at : awCallB m_X8_at 1 := ⟨awBig_tab (n := 12) (by decide +kernel) (by decide +kernel), awBig_tab (n := 572) (by decide +kernel) (by decide +kernel), by decide, by decide, by decide +kernel⟩
def m_X8_put : awM := (⟨"AlarmTower$Source", "put", "(IJ)V"⟩, prog_10_method_4_code, 4, none, 0, 0, false)
theorem cb_X8_put : awCallB m_X8_put 2 := ⟨awBig_tab (n := 12) (by decide +kernel) (by decide +kernel), awBig_tab (n := 518) (by decide +kernel) (by decide +kernel), by decide, by decide, by decide +kernel⟩
def m_X8_drop : awM := (⟨"AlarmTower$Source", "drop", "(I)V"⟩, prog_10_method_5_code, 2, none, 0, 0, false)
theorem cb_X8_drop : awCallB m_X8_drop 1 := ⟨awBig_tab (n := 12) (by decide +kernel) (by decide +kernel), awBig_tab (n := 529) (by decide +kernel) (by decide +kernel), by decide, by decide, by decide +kernel⟩
def m_X8_isSilentIn : awM := (⟨"AlarmTower$Source", "isSilentIn", "(II)Z"⟩, prog_10_method_6_code, 4, (some .boolean), 1, 21, false)
theorem cb_X8_isSilentIn : awCallB m_X8_isSilentIn 2 := ⟨awBig_tab (n := 12) (by decide +kernel) (by decide +kernel), awBig_tab (n := 565) (by decide +kernel) (by decide +kernel), by decide, by decide, by decide +kernel⟩
def m_X9_init : awM := (⟨"AlarmTower$Swap", "<init>", "(IIII)V"⟩, prog_11_method_1_code, 5, none, 1, 20, true)
theorem cb_X9_init : awCallB m_X9_init 4 := ⟨awBig_tab (n := 19) (by decide +kernel) (by decide +kernel), awBig_tab (n := 480) (by decide +kernel) (by decide +kernel), by decide, by decide, by decide +kernel⟩
def m_X9_covers : awM := (⟨"AlarmTower$Swap", "covers", "(I)Z"⟩, prog_11_method_2_code, 2, (some .boolean), 0, 0, false)
theorem cb_X9_covers : awCallB m_X9_covers 1 := ⟨awBig_tab (n := 19) (by decide +kernel) (by decide +kernel), awBig_tab (n := 881) (by decide +kernel) (by decide +kernel), by decide, by decide, by decide +kernel⟩
def m_X10_init : awM := (⟨"AlarmTower$Watch", "<init>", "()V"⟩, prog_12_method_1_code, 1, none, 1, 20, true)
theorem cb_X10_init : awCallB m_X10_init 0 := ⟨awBig_tab (n := 14) (by decide +kernel) (by decide +kernel), awBig_tab (n := 282) (by decide +kernel) (by decide +kernel), by decide, by decide, by decide +kernel⟩
def m_X10_note : awM := (⟨"AlarmTower$Watch", "note", "(I)V"⟩, prog_12_method_2_code, 2, none, 0, 0, false)
theorem cb_X10_note : awCallB m_X10_note 1 := ⟨awBig_tab (n := 14) (by decide +kernel) (by decide +kernel), awBig_tab (n := 598) (by decide +kernel) (by decide +kernel), by decide, by decide, by decide +kernel⟩
def m_X11_init : awM := (⟨"AlarmTower", "<init>", "()V"⟩, prog_1_method_1_code, 2, none, 7, 171, true)
theorem cb_X11_init : awCallB m_X11_init 0 := ⟨awBig_tab (n := 1) (by decide +kernel) (by decide +kernel), awBig_tab (n := 32) (by decide +kernel) (by decide +kernel), by decide, by decide, by decide +kernel⟩
def m_X11_source : awM := (⟨"AlarmTower", "source", "(I)I"⟩, prog_1_method_2_code, 2, (some .int), 7, 171, false)
theorem cb_X11_source : awCallB m_X11_source 1 := ⟨awBig_tab (n := 1) (by decide +kernel) (by decide +kernel), awBig_tab (n := 227) (by decide +kernel) (by decide +kernel), by decide, by decide, by decide +kernel⟩
def m_X11_rule : awM := (⟨"AlarmTower", "rule", "(IJIII)I"⟩, prog_1_method_3_code, 8, (some .int), 7, 171, false)
theorem cb_X11_rule : awCallB m_X11_rule 5 := ⟨awBig_tab (n := 1) (by decide +kernel) (by decide +kernel), awBig_tab (n := 263) (by decide +kernel) (by decide +kernel), by decide, by decide, by decide +kernel⟩
def m_X11_isLook : awM := (⟨"AlarmTower", "isLook", "(IIJI)Z"⟩, prog_1_method_4_code, 6, (some .boolean), 1, 22, false)
theorem cb_X11_isLook : awCallB m_X11_isLook 4 := ⟨awBig_tab (n := 1) (by decide +kernel) (by decide +kernel), awBig_tab (n := 267) (by decide +kernel) (by decide +kernel), by decide, by decide, by decide +kernel⟩
def m_X11_isManner : awM := (⟨"AlarmTower", "isManner", "(I)Z"⟩, prog_1_method_5_code, 1, (some .boolean), 1, 22, false)
theorem cb_X11_isManner : awCallB m_X11_isManner 1 := ⟨awBig_tab (n := 1) (by decide +kernel) (by decide +kernel), awBig_tab (n := 270) (by decide +kernel) (by decide +kernel), by decide, by decide, by decide +kernel⟩
def m_X11_hold : awM := (⟨"AlarmTower", "hold", "(III)I"⟩, prog_1_method_6_code, 6, (some .int), 4, 89, false)
theorem cb_X11_hold : awCallB m_X11_hold 3 := ⟨awBig_tab (n := 1) (by decide +kernel) (by decide +kernel), awBig_tab (n := 364) (by decide +kernel) (by decide +kernel), by decide, by decide, by decide +kernel⟩
def m_X11_isHeldOver : awM := (⟨"AlarmTower", "isHeldOver", "(II)Z"⟩, prog_1_method_7_code, 6, (some .boolean), 3, 64, false)
theorem cb_X11_isHeldOver : awCallB m_X11_isHeldOver 2 := ⟨awBig_tab (n := 1) (by decide +kernel) (by decide +kernel), awBig_tab (n := 386) (by decide +kernel) (by decide +kernel), by decide, by decide, by decide +kernel⟩
def m_X11_silence : awM := (⟨"AlarmTower", "silence", "(IIIII)I"⟩, prog_1_method_8_code, 6, (some .int), 7, 171, false)
theorem cb_X11_silence : awCallB m_X11_silence 5 := ⟨awBig_tab (n := 1) (by decide +kernel) (by decide +kernel), awBig_tab (n := 398) (by decide +kernel) (by decide +kernel), by decide, by decide, by decide +kernel⟩
def m_X11_mask : awM := (⟨"AlarmTower", "mask", "(I)I"⟩, prog_1_method_9_code, 2, (some .int), 1, 22, false)
theorem cb_X11_mask : awCallB m_X11_mask 1 := ⟨awBig_tab (n := 1) (by decide +kernel) (by decide +kernel), awBig_tab (n := 428) (by decide +kernel) (by decide +kernel), by decide, by decide, by decide +kernel⟩
def m_X11_waits : awM := (⟨"AlarmTower", "waits", "(IIII)I"⟩, prog_1_method_10_code, 5, (some .int), 1, 22, false)
theorem cb_X11_waits : awCallB m_X11_waits 4 := ⟨awBig_tab (n := 1) (by decide +kernel) (by decide +kernel), awBig_tab (n := 432) (by decide +kernel) (by decide +kernel), by decide, by decide, by decide +kernel⟩
def m_X11_hand : awM := (⟨"AlarmTower", "hand", "()I"⟩, prog_1_method_11_code, 1, (some .int), 1, 20, false)
theorem cb_X11_hand : awCallB m_X11_hand 0 := ⟨awBig_tab (n := 1) (by decide +kernel) (by decide +kernel), awBig_tab (n := 436) (by decide +kernel) (by decide +kernel), by decide, by decide, by decide +kernel⟩
def m_X11_shift : awM := (⟨"AlarmTower", "shift", "(IIII)I"⟩, prog_1_method_12_code, 5, (some .int), 8, 192, false)
theorem cb_X11_shift : awCallB m_X11_shift 4 := ⟨awBig_tab (n := 1) (by decide +kernel) (by decide +kernel), awBig_tab (n := 444) (by decide +kernel) (by decide +kernel), by decide, by decide, by decide +kernel⟩
def m_X11_swap : awM := (⟨"AlarmTower", "swap", "(IIII)I"⟩, prog_1_method_13_code, 5, (some .int), 8, 192, false)
theorem cb_X11_swap : awCallB m_X11_swap 4 := ⟨awBig_tab (n := 1) (by decide +kernel) (by decide +kernel), awBig_tab (n := 475) (by decide +kernel) (by decide +kernel), by decide, by decide, by decide +kernel⟩
def m_X11_value : awM := (⟨"AlarmTower", "value", "(ID)I"⟩, prog_1_method_14_code, 7, (some .int), 4, 85, false)
theorem cb_X11_value : awCallB m_X11_value 2 := ⟨awBig_tab (n := 1) (by decide +kernel) (by decide +kernel), awBig_tab (n := 504) (by decide +kernel) (by decide +kernel), by decide, by decide, by decide +kernel⟩
def m_X11_tear : awM := (⟨"AlarmTower", "tear", "(I)I"⟩, prog_1_method_15_code, 4, (some .int), 4, 85, false)
theorem cb_X11_tear : awCallB m_X11_tear 1 := ⟨awBig_tab (n := 1) (by decide +kernel) (by decide +kernel), awBig_tab (n := 525) (by decide +kernel) (by decide +kernel), by decide, by decide, by decide +kernel⟩
def m_X11_tick : awM := (⟨"AlarmTower", "tick", "()I"⟩, prog_1_method_16_code, 3, (some .int), 11, 267, false)
theorem cb_X11_tick : awCallB m_X11_tick 0 := ⟨awBig_tab (n := 1) (by decide +kernel) (by decide +kernel), awBig_tab (n := 533) (by decide +kernel) (by decide +kernel), by decide, by decide, by decide +kernel⟩
def m_X11_lookByRules : awM := (⟨"AlarmTower", "lookByRules", "(I)V"⟩, prog_1_method_17_code, 5, none, 10, 243, false)
theorem cb_X11_lookByRules : awCallB m_X11_lookByRules 1 := ⟨awBig_tab (n := 1) (by decide +kernel) (by decide +kernel), awBig_tab (n := 537) (by decide +kernel) (by decide +kernel), by decide, by decide, by decide +kernel⟩
def m_X11_lookAt : awM := (⟨"AlarmTower", "lookAt", "(LAlarmTower$Rule;LAlarmTower$Source;I)V"⟩, prog_1_method_18_code, 6, none, 9, 218, false)
theorem cb_X11_lookAt : awCallB m_X11_lookAt 3 := ⟨awBig_tab (n := 1) (by decide +kernel) (by decide +kernel), awBig_tab (n := 541) (by decide +kernel) (by decide +kernel), by decide, by decide, by decide +kernel⟩
def m_X11_truthOfBoth : awM := (⟨"AlarmTower", "truthOfBoth", "(LAlarmTower$Rule;LAlarmTower$Source;)I"⟩, prog_1_method_19_code, 5, (some .int), 5, 108, false)
theorem cb_X11_truthOfBoth : awCallB m_X11_truthOfBoth 2 := ⟨awBig_tab (n := 1) (by decide +kernel) (by decide +kernel), awBig_tab (n := 553) (by decide +kernel) (by decide +kernel), by decide, by decide, by decide +kernel⟩
def m_X11_beginAlarm : awM := (⟨"AlarmTower", "beginAlarm", "(LAlarmTower$Rule;LAlarmTower$Source;LAlarmTower$Watch;I)V"⟩, prog_1_method_20_code, 5, none, 8, 194, false)
theorem cb_X11_beginAlarm : awCallB m_X11_beginAlarm 4 := ⟨awBig_tab (n := 1) (by decide +kernel) (by decide +kernel), awBig_tab (n := 606) (by decide +kernel) (by decide +kernel), by decide, by decide, by decide +kernel⟩
def m_X11_groupOf : awM := (⟨"AlarmTower", "groupOf", "(LAlarmTower$Rule;LAlarmTower$Source;)LAlarmTower$Group;"⟩, prog_1_method_21_code, 4, (some (.object "AlarmTower$Group")), 7, 171, false)
theorem cb_X11_groupOf : awCallB m_X11_groupOf 2 := ⟨awBig_tab (n := 1) (by decide +kernel) (by decide +kernel), awBig_tab (n := 612) (by decide +kernel) (by decide +kernel), by decide, by decide, by decide +kernel⟩
def m_X11_markAlarms : awM := (⟨"AlarmTower", "markAlarms", "(I)V"⟩, prog_1_method_22_code, 4, none, 5, 112, false)
theorem cb_X11_markAlarms : awCallB m_X11_markAlarms 1 := ⟨awBig_tab (n := 1) (by decide +kernel) (by decide +kernel), awBig_tab (n := 715) (by decide +kernel) (by decide +kernel), by decide, by decide, by decide +kernel⟩
def m_X11_isHeld : awM := (⟨"AlarmTower", "isHeld", "(LAlarmTower$Alarm;)Z"⟩, prog_1_method_23_code, 4, (some .boolean), 4, 89, false)
theorem cb_X11_isHeld : awCallB m_X11_isHeld 1 := ⟨awBig_tab (n := 1) (by decide +kernel) (by decide +kernel), awBig_tab (n := 723) (by decide +kernel) (by decide +kernel), by decide, by decide, by decide +kernel⟩
def m_X11_lastsLike : awM := (⟨"AlarmTower", "lastsLike", "(LAlarmTower$Rule;LAlarmTower$Source;I)Z"⟩, prog_1_method_24_code, 6, (some .boolean), 3, 64, false)
theorem cb_X11_lastsLike : awCallB m_X11_lastsLike 3 := ⟨awBig_tab (n := 1) (by decide +kernel) (by decide +kernel), awBig_tab (n := 731) (by decide +kernel) (by decide +kernel), by decide, by decide, by decide +kernel⟩
def m_X11_isLike : awM := (⟨"AlarmTower", "isLike", "(LAlarmTower$Source;LAlarmTower$Source;I)Z"⟩, prog_1_method_25_code, 3, (some .boolean), 0, 0, false)
theorem cb_X11_isLike : awCallB m_X11_isLike 3 := ⟨awBig_tab (n := 1) (by decide +kernel) (by decide +kernel), awBig_tab (n := 734) (by decide +kernel) (by decide +kernel), by decide, by decide, by decide +kernel⟩
def m_X11_isSilenced : awM := (⟨"AlarmTower", "isSilenced", "(LAlarmTower$Alarm;I)Z"⟩, prog_1_method_26_code, 4, (some .boolean), 3, 64, false)
theorem cb_X11_isSilenced : awCallB m_X11_isSilenced 2 := ⟨awBig_tab (n := 1) (by decide +kernel) (by decide +kernel), awBig_tab (n := 738) (by decide +kernel) (by decide +kernel), by decide, by decide, by decide +kernel⟩
def m_X11_climbRows : awM := (⟨"AlarmTower", "climbRows", "(I)V"⟩, prog_1_method_27_code, 3, none, 3, 64, false)
theorem cb_X11_climbRows : awCallB m_X11_climbRows 1 := ⟨awBig_tab (n := 1) (by decide +kernel) (by decide +kernel), awBig_tab (n := 750) (by decide +kernel) (by decide +kernel), by decide, by decide, by decide +kernel⟩
def m_X11_sendLetters : awM := (⟨"AlarmTower", "sendLetters", "(I)I"⟩, prog_1_method_28_code, 5, (some .int), 8, 197, false)
theorem cb_X11_sendLetters : awCallB m_X11_sendLetters 1 := ⟨awBig_tab (n := 1) (by decide +kernel) (by decide +kernel), awBig_tab (n := 768) (by decide +kernel) (by decide +kernel), by decide, by decide, by decide +kernel⟩
def m_X11_lookByGroups : awM := (⟨"AlarmTower", "lookByGroups", "()V"⟩, prog_1_method_29_code, 2, none, 3, 64, false)
theorem cb_X11_lookByGroups : awCallB m_X11_lookByGroups 0 := ⟨awBig_tab (n := 1) (by decide +kernel) (by decide +kernel), awBig_tab (n := 772) (by decide +kernel) (by decide +kernel), by decide, by decide, by decide +kernel⟩
def m_X11_reasonOf : awM := (⟨"AlarmTower", "reasonOf", "(LAlarmTower$Group;I)I"⟩, prog_1_method_30_code, 3, (some .int), 1, 20, false)
theorem cb_X11_reasonOf : awCallB m_X11_reasonOf 2 := ⟨awBig_tab (n := 1) (by decide +kernel) (by decide +kernel), awBig_tab (n := 794) (by decide +kernel) (by decide +kernel), by decide, by decide, by decide +kernel⟩
def m_X11_sendLetter : awM := (⟨"AlarmTower", "sendLetter", "(LAlarmTower$Group;II)V"⟩, prog_1_method_31_code, 7, none, 7, 171, false)
theorem cb_X11_sendLetter : awCallB m_X11_sendLetter 3 := ⟨awBig_tab (n := 1) (by decide +kernel) (by decide +kernel), awBig_tab (n := 802) (by decide +kernel) (by decide +kernel), by decide, by decide, by decide +kernel⟩
def m_X11_truth : awM := (⟨"AlarmTower", "truth", "(II)I"⟩, prog_1_method_32_code, 4, (some .int), 5, 108, false)
theorem cb_X11_truth : awCallB m_X11_truth 2 := ⟨awBig_tab (n := 1) (by decide +kernel) (by decide +kernel), awBig_tab (n := 910) (by decide +kernel) (by decide +kernel), by decide, by decide, by decide +kernel⟩
def m_X11_counts : awM := (⟨"AlarmTower", "counts", "(III)I"⟩, prog_1_method_33_code, 5, (some .int), 5, 108, false)
theorem cb_X11_counts : awCallB m_X11_counts 3 := ⟨awBig_tab (n := 1) (by decide +kernel) (by decide +kernel), awBig_tab (n := 914) (by decide +kernel) (by decide +kernel), by decide, by decide, by decide +kernel⟩
def m_X11_alarm : awM := (⟨"AlarmTower", "alarm", "(II)I"⟩, prog_1_method_34_code, 4, (some .int), 4, 85, false)
theorem cb_X11_alarm : awCallB m_X11_alarm 2 := ⟨awBig_tab (n := 1) (by decide +kernel) (by decide +kernel), awBig_tab (n := 918) (by decide +kernel) (by decide +kernel), by decide, by decide, by decide +kernel⟩
def m_X11_letter : awM := (⟨"AlarmTower", "letter", "(II)I"⟩, prog_1_method_35_code, 4, (some .int), 4, 85, false)
theorem cb_X11_letter : awCallB m_X11_letter 2 := ⟨awBig_tab (n := 1) (by decide +kernel) (by decide +kernel), awBig_tab (n := 926) (by decide +kernel) (by decide +kernel), by decide, by decide, by decide +kernel⟩
def m_X11_holds : awM := (⟨"AlarmTower", "holds", "(II)I"⟩, prog_1_method_36_code, 4, (some .int), 4, 85, false)
theorem cb_X11_holds : awCallB m_X11_holds 2 := ⟨awBig_tab (n := 1) (by decide +kernel) (by decide +kernel), awBig_tab (n := 942) (by decide +kernel) (by decide +kernel), by decide, by decide, by decide +kernel⟩
def m_X11_why : awM := (⟨"AlarmTower", "why", "(I)I"⟩, prog_1_method_37_code, 3, (some .int), 4, 85, false)
theorem cb_X11_why : awCallB m_X11_why 1 := ⟨awBig_tab (n := 1) (by decide +kernel) (by decide +kernel), awBig_tab (n := 946) (by decide +kernel) (by decide +kernel), by decide, by decide, by decide +kernel⟩
def m_X11_whyNot : awM := (⟨"AlarmTower", "whyNot", "(II)I"⟩, prog_1_method_38_code, 4, (some .int), 5, 108, false)
theorem cb_X11_whyNot : awCallB m_X11_whyNot 2 := ⟨awBig_tab (n := 1) (by decide +kernel) (by decide +kernel), awBig_tab (n := 950) (by decide +kernel) (by decide +kernel), by decide, by decide, by decide +kernel⟩
def m_X11_awake : awM := (⟨"AlarmTower", "awake", "(II)I"⟩, prog_1_method_39_code, 4, (some .int), 5, 112, false)
theorem cb_X11_awake : awCallB m_X11_awake 2 := ⟨awBig_tab (n := 1) (by decide +kernel) (by decide +kernel), awBig_tab (n := 955) (by decide +kernel) (by decide +kernel), by decide, by decide, by decide +kernel⟩
def m_X11_answer : awM := (⟨"AlarmTower", "answer", "(II)I"⟩, prog_1_method_40_code, 4, (some .int), 4, 85, false)
theorem cb_X11_answer : awCallB m_X11_answer 2 := ⟨awBig_tab (n := 1) (by decide +kernel) (by decide +kernel), awBig_tab (n := 959) (by decide +kernel) (by decide +kernel), by decide, by decide, by decide +kernel⟩
def m_X11_noise : awM := (⟨"AlarmTower", "noise", "(I)I"⟩, prog_1_method_41_code, 4, (some .int), 3, 64, false)
theorem cb_X11_noise : awCallB m_X11_noise 1 := ⟨awBig_tab (n := 1) (by decide +kernel) (by decide +kernel), awBig_tab (n := 968) (by decide +kernel) (by decide +kernel), by decide, by decide, by decide +kernel⟩
def m_X11_flap : awM := (⟨"AlarmTower", "flap", "(II)I"⟩, prog_1_method_42_code, 7, (some .int), 4, 85, false)
theorem cb_X11_flap : awCallB m_X11_flap 2 := ⟨awBig_tab (n := 1) (by decide +kernel) (by decide +kernel), awBig_tab (n := 972) (by decide +kernel) (by decide +kernel), by decide, by decide, by decide +kernel⟩
def m_X11_least : awM := (⟨"AlarmTower", "least", "(II)I"⟩, prog_1_method_43_code, 4, (some .int), 4, 85, false)
theorem cb_X11_least : awCallB m_X11_least 2 := ⟨awBig_tab (n := 1) (by decide +kernel) (by decide +kernel), awBig_tab (n := 977) (by decide +kernel) (by decide +kernel), by decide, by decide, by decide +kernel⟩
def m_X11_count : awM := (⟨"AlarmTower", "count", "(I)I"⟩, prog_1_method_44_code, 2, (some .int), 4, 86, false)
theorem cb_X11_count : awCallB m_X11_count 1 := ⟨awBig_tab (n := 1) (by decide +kernel) (by decide +kernel), awBig_tab (n := 985) (by decide +kernel) (by decide +kernel), by decide, by decide, by decide +kernel⟩
def m_X11_lastingCount : awM := (⟨"AlarmTower", "lastingCount", "()I"⟩, prog_1_method_45_code, 3, (some .int), 3, 64, false)
theorem cb_X11_lastingCount : awCallB m_X11_lastingCount 0 := ⟨awBig_tab (n := 1) (by decide +kernel) (by decide +kernel), awBig_tab (n := 989) (by decide +kernel) (by decide +kernel), by decide, by decide, by decide +kernel⟩
def m_X11_unansweredCount : awM := (⟨"AlarmTower", "unansweredCount", "()I"⟩, prog_1_method_46_code, 3, (some .int), 3, 64, false)
theorem cb_X11_unansweredCount : awCallB m_X11_unansweredCount 0 := ⟨awBig_tab (n := 1) (by decide +kernel) (by decide +kernel), awBig_tab (n := 993) (by decide +kernel) (by decide +kernel), by decide, by decide, by decide +kernel⟩
def m_X11_keep : awM := (⟨"AlarmTower", "keep", "(III)I"⟩, prog_1_method_47_code, 5, (some .int), 4, 85, false)
theorem cb_X11_keep : awCallB m_X11_keep 3 := ⟨awBig_tab (n := 1) (by decide +kernel) (by decide +kernel), awBig_tab (n := 997) (by decide +kernel) (by decide +kernel), by decide, by decide, by decide +kernel⟩
def m_X11_keepAlarm : awM := (⟨"AlarmTower", "keepAlarm", "(LAlarmTower$Board;LAlarmTower$Alarm;)I"⟩, prog_1_method_48_code, 2, (some .int), 1, 21, false)
theorem cb_X11_keepAlarm : awCallB m_X11_keepAlarm 2 := ⟨awBig_tab (n := 1) (by decide +kernel) (by decide +kernel), awBig_tab (n := 1008) (by decide +kernel) (by decide +kernel), by decide, by decide, by decide +kernel⟩
def m_X11_keepRow : awM := (⟨"AlarmTower", "keepRow", "(LAlarmTower$Board;ILAlarmTower$Source;)I"⟩, prog_1_method_49_code, 7, (some .int), 2, 46, false)
theorem cb_X11_keepRow : awCallB m_X11_keepRow 3 := ⟨awBig_tab (n := 1) (by decide +kernel) (by decide +kernel), awBig_tab (n := 1016) (by decide +kernel) (by decide +kernel), by decide, by decide, by decide +kernel⟩
def m_X11_make : awM := (⟨"AlarmTower", "make", "(III)I"⟩, prog_1_method_50_code, 5, (some .int), 4, 85, false)
theorem cb_X11_make : awCallB m_X11_make 3 := ⟨awBig_tab (n := 1) (by decide +kernel) (by decide +kernel), awBig_tab (n := 1034) (by decide +kernel) (by decide +kernel), by decide, by decide, by decide +kernel⟩
def m_X11_element : awM := (⟨"AlarmTower", "element", "(II)J"⟩, prog_1_method_51_code, 4, (some .long), 4, 85, false)
theorem cb_X11_element : awCallB m_X11_element 2 := ⟨awBig_tab (n := 1) (by decide +kernel) (by decide +kernel), awBig_tab (n := 1142) (by decide +kernel) (by decide +kernel), by decide, by decide, by decide +kernel⟩
def m_X11_copy : awM := (⟨"AlarmTower", "copy", "(IIIII)I"⟩, prog_1_method_52_code, 8, (some .int), 4, 85, false)
theorem cb_X11_copy : awCallB m_X11_copy 5 := ⟨awBig_tab (n := 1) (by decide +kernel) (by decide +kernel), awBig_tab (n := 1038) (by decide +kernel) (by decide +kernel), by decide, by decide, by decide +kernel⟩
def m_X11_weight : awM := (⟨"AlarmTower", "weight", "(I)I"⟩, prog_1_method_53_code, 6, (some .int), 5, 107, false)
theorem cb_X11_weight : awCallB m_X11_weight 1 := ⟨awBig_tab (n := 1) (by decide +kernel) (by decide +kernel), awBig_tab (n := 1051) (by decide +kernel) (by decide +kernel), by decide, by decide, by decide +kernel⟩
def m_X11_throwFailure : awM := (⟨"AlarmTower", "throwFailure", "(LAlarmTower$Alarm;)V"⟩, prog_1_method_55_code, 1, none, 0, 0, false)
theorem cb_X11_throwFailure : awCallB m_X11_throwFailure 1 := ⟨awBig_tab (n := 1) (by decide +kernel) (by decide +kernel), awBig_tab (n := 1067) (by decide +kernel) (by decide +kernel), by decide, by decide, by decide +kernel⟩
def m_X11_refusalOfAlarm : awM := (⟨"AlarmTower", "refusalOfAlarm", "(I)I"⟩, prog_1_method_56_code, 3, (some .int), 4, 85, false)
theorem cb_X11_refusalOfAlarm : awCallB m_X11_refusalOfAlarm 1 := ⟨awBig_tab (n := 1) (by decide +kernel) (by decide +kernel), awBig_tab (n := 1055) (by decide +kernel) (by decide +kernel), by decide, by decide, by decide +kernel⟩
def m_X11_alarmOn : awM := (⟨"AlarmTower", "alarmOn", "(I)LAlarmTower$Alarm;"⟩, prog_1_method_57_code, 3, (some (.object "AlarmTower$Alarm")), 4, 85, false)
theorem cb_X11_alarmOn : awCallB m_X11_alarmOn 1 := ⟨awBig_tab (n := 1) (by decide +kernel) (by decide +kernel), awBig_tab (n := 1059) (by decide +kernel) (by decide +kernel), by decide, by decide, by decide +kernel⟩
def m_X11_isWithin : awM := (⟨"AlarmTower", "isWithin", "(III)Z"⟩, prog_1_method_58_code, 3, (some .boolean), 0, 0, false)
theorem cb_X11_isWithin : awCallB m_X11_isWithin 3 := ⟨awBig_tab (n := 1) (by decide +kernel) (by decide +kernel), awBig_tab (n := 230) (by decide +kernel) (by decide +kernel), by decide, by decide, by decide +kernel⟩
def m_X11_areTicks : awM := (⟨"AlarmTower", "areTicks", "(II)Z"⟩, prog_1_method_59_code, 2, (some .boolean), 0, 0, false)
theorem cb_X11_areTicks : awCallB m_X11_areTicks 2 := ⟨awBig_tab (n := 1) (by decide +kernel) (by decide +kernel), awBig_tab (n := 401) (by decide +kernel) (by decide +kernel), by decide, by decide, by decide +kernel⟩
def m_X11_bit : awM := (⟨"AlarmTower", "bit", "(Z)I"⟩, prog_1_method_60_code, 1, (some .int), 0, 0, false)
theorem cb_X11_bit : awCallB m_X11_bit 1 := ⟨awBig_tab (n := 1) (by decide +kernel) (by decide +kernel), awBig_tab (n := 521) (by decide +kernel) (by decide +kernel), by decide, by decide, by decide +kernel⟩
def m_X11_sourceAt : awM := (⟨"AlarmTower", "sourceAt", "(I)LAlarmTower$Source;"⟩, prog_1_method_61_code, 2, (some (.object "AlarmTower$Source")), 3, 64, false)
theorem cb_X11_sourceAt : awCallB m_X11_sourceAt 1 := ⟨awBig_tab (n := 1) (by decide +kernel) (by decide +kernel), awBig_tab (n := 508) (by decide +kernel) (by decide +kernel), by decide, by decide, by decide +kernel⟩
def m_X11_ruleAt : awM := (⟨"AlarmTower", "ruleAt", "(I)LAlarmTower$Rule;"⟩, prog_1_method_62_code, 2, (some (.object "AlarmTower$Rule")), 3, 64, false)
theorem cb_X11_ruleAt : awCallB m_X11_ruleAt 1 := ⟨awBig_tab (n := 1) (by decide +kernel) (by decide +kernel), awBig_tab (n := 368) (by decide +kernel) (by decide +kernel), by decide, by decide, by decide +kernel⟩
def m_X11_alarmAt : awM := (⟨"AlarmTower", "alarmAt", "(I)LAlarmTower$Alarm;"⟩, prog_1_method_63_code, 2, (some (.object "AlarmTower$Alarm")), 3, 64, false)
theorem cb_X11_alarmAt : awCallB m_X11_alarmAt 1 := ⟨awBig_tab (n := 1) (by decide +kernel) (by decide +kernel), awBig_tab (n := 922) (by decide +kernel) (by decide +kernel), by decide, by decide, by decide +kernel⟩
def m_X11_letterAt : awM := (⟨"AlarmTower", "letterAt", "(I)LAlarmTower$Letter;"⟩, prog_1_method_64_code, 2, (some (.object "AlarmTower$Letter")), 3, 64, false)
theorem cb_X11_letterAt : awCallB m_X11_letterAt 1 := ⟨awBig_tab (n := 1) (by decide +kernel) (by decide +kernel), awBig_tab (n := 930) (by decide +kernel) (by decide +kernel), by decide, by decide, by decide +kernel⟩
def m_X11_boardAt : awM := (⟨"AlarmTower", "boardAt", "(I)LAlarmTower$Board;"⟩, prog_1_method_65_code, 2, (some (.object "AlarmTower$Board")), 3, 64, false)
theorem cb_X11_boardAt : awCallB m_X11_boardAt 1 := ⟨awBig_tab (n := 1) (by decide +kernel) (by decide +kernel), awBig_tab (n := 1001) (by decide +kernel) (by decide +kernel), by decide, by decide, by decide +kernel⟩
def m_X11_watchOf : awM := (⟨"AlarmTower", "watchOf", "(II)LAlarmTower$Watch;"⟩, prog_1_method_66_code, 4, (some (.object "AlarmTower$Watch")), 4, 85, false)
theorem cb_X11_watchOf : awCallB m_X11_watchOf 2 := ⟨awBig_tab (n := 1) (by decide +kernel) (by decide +kernel), awBig_tab (n := 557) (by decide +kernel) (by decide +kernel), by decide, by decide, by decide +kernel⟩
def m_X12_init : awM := (⟨"AlarmTowerModel", "<init>", "()V"⟩, prog_14_method_1_code, 2, none, 1, 20, true)
theorem cb_X12_init : awCallB m_X12_init 0 := ⟨awBig_tab (n := 11) (by decide +kernel) (by decide +kernel), awBig_tab (n := 1168) (by decide +kernel) (by decide +kernel), by decide, by decide, by decide +kernel⟩
def m_X12_thrown : awM := (⟨"AlarmTowerModel", "thrown", "()I"⟩, prog_14_method_2_code, 1, (some .int), 0, 0, false)
theorem cb_X12_thrown : awCallB m_X12_thrown 0 := ⟨awBig_tab (n := 11) (by decide +kernel) (by decide +kernel), awBig_tab (n := 1427) (by decide +kernel) (by decide +kernel), by decide, by decide, by decide +kernel⟩
def m_X12_isIn : awM := (⟨"AlarmTowerModel", "isIn", "(JJJ)Z"⟩, prog_14_method_3_code, 6, (some .boolean), 0, 0, false)
theorem cb_X12_isIn : awCallB m_X12_isIn 3 := ⟨awBig_tab (n := 11) (by decide +kernel) (by decide +kernel), awBig_tab (n := 1435) (by decide +kernel) (by decide +kernel), by decide, by decide, by decide +kernel⟩
def m_X12_isSource : awM := (⟨"AlarmTowerModel", "isSource", "(I)Z"⟩, prog_14_method_4_code, 2, (some .boolean), 0, 0, false)
theorem cb_X12_isSource : awCallB m_X12_isSource 1 := ⟨awBig_tab (n := 11) (by decide +kernel) (by decide +kernel), awBig_tab (n := 1499) (by decide +kernel) (by decide +kernel), by decide, by decide, by decide +kernel⟩
def m_X12_isRule : awM := (⟨"AlarmTowerModel", "isRule", "(I)Z"⟩, prog_14_method_5_code, 2, (some .boolean), 0, 0, false)
theorem cb_X12_isRule : awCallB m_X12_isRule 1 := ⟨awBig_tab (n := 11) (by decide +kernel) (by decide +kernel), awBig_tab (n := 1449) (by decide +kernel) (by decide +kernel), by decide, by decide, by decide +kernel⟩
def m_X12_isHand : awM := (⟨"AlarmTowerModel", "isHand", "(I)Z"⟩, prog_14_method_6_code, 2, (some .boolean), 0, 0, false)
theorem cb_X12_isHand : awCallB m_X12_isHand 1 := ⟨awBig_tab (n := 11) (by decide +kernel) (by decide +kernel), awBig_tab (n := 1467) (by decide +kernel) (by decide +kernel), by decide, by decide, by decide +kernel⟩
def m_X12_source : awM := (⟨"AlarmTowerModel", "source", "(I)I"⟩, prog_14_method_7_code, 2, (some .int), 1, 25, false)
theorem cb_X12_source : awCallB m_X12_source 1 := ⟨awBig_tab (n := 11) (by decide +kernel) (by decide +kernel), awBig_tab (n := 1431) (by decide +kernel) (by decide +kernel), by decide, by decide, by decide +kernel⟩
def m_X12_rule : awM := (⟨"AlarmTowerModel", "rule", "(IJIII)I"⟩, prog_14_method_8_code, 13, (some .int), 1, 25, false)
theorem cb_X12_rule : awCallB m_X12_rule 5 := ⟨awBig_tab (n := 11) (by decide +kernel) (by decide +kernel), awBig_tab (n := 1439) (by decide +kernel) (by decide +kernel), by decide, by decide, by decide +kernel⟩
def m_X12_holdsAll : awM := (⟨"AlarmTowerModel", "holdsAll", "(II)Z"⟩, prog_14_method_9_code, 5, (some .boolean), 0, 0, false)
theorem cb_X12_holdsAll : awCallB m_X12_holdsAll 2 := ⟨awBig_tab (n := 11) (by decide +kernel) (by decide +kernel), awBig_tab (n := 1458) (by decide +kernel) (by decide +kernel), by decide, by decide, by decide +kernel⟩
def m_X12_hold : awM := (⟨"AlarmTowerModel", "hold", "(III)I"⟩, prog_14_method_10_code, 4, (some .int), 1, 25, false)
theorem cb_X12_hold : awCallB m_X12_hold 3 := ⟨awBig_tab (n := 11) (by decide +kernel) (by decide +kernel), awBig_tab (n := 1453) (by decide +kernel) (by decide +kernel), by decide, by decide, by decide +kernel⟩
def m_X12_silence : awM := (⟨"AlarmTowerModel", "silence", "(IIIII)I"⟩, prog_14_method_11_code, 7, (some .int), 1, 25, false)
theorem cb_X12_silence : awCallB m_X12_silence 5 := ⟨awBig_tab (n := 11) (by decide +kernel) (by decide +kernel), awBig_tab (n := 1462) (by decide +kernel) (by decide +kernel), by decide, by decide, by decide +kernel⟩
def m_X12_mask : awM := (⟨"AlarmTowerModel", "mask", "(I)I"⟩, prog_14_method_12_code, 2, (some .int), 1, 25, false)
theorem cb_X12_mask : awCallB m_X12_mask 1 := ⟨awBig_tab (n := 11) (by decide +kernel) (by decide +kernel), awBig_tab (n := 1471) (by decide +kernel) (by decide +kernel), by decide, by decide, by decide +kernel⟩
def m_X12_waits : awM := (⟨"AlarmTowerModel", "waits", "(IIII)I"⟩, prog_14_method_13_code, 5, (some .int), 1, 25, false)
theorem cb_X12_waits : awCallB m_X12_waits 4 := ⟨awBig_tab (n := 11) (by decide +kernel) (by decide +kernel), awBig_tab (n := 1476) (by decide +kernel) (by decide +kernel), by decide, by decide, by decide +kernel⟩
def m_X12_hand : awM := (⟨"AlarmTowerModel", "hand", "()I"⟩, prog_14_method_14_code, 1, (some .int), 0, 0, false)
theorem cb_X12_hand : awCallB m_X12_hand 0 := ⟨awBig_tab (n := 11) (by decide +kernel) (by decide +kernel), awBig_tab (n := 1481) (by decide +kernel) (by decide +kernel), by decide, by decide, by decide +kernel⟩
def m_X12_shift : awM := (⟨"AlarmTowerModel", "shift", "(IIII)I"⟩, prog_14_method_15_code, 5, (some .int), 1, 25, false)
theorem cb_X12_shift : awCallB m_X12_shift 4 := ⟨awBig_tab (n := 11) (by decide +kernel) (by decide +kernel), awBig_tab (n := 1485) (by decide +kernel) (by decide +kernel), by decide, by decide, by decide +kernel⟩
def m_X12_swap : awM := (⟨"AlarmTowerModel", "swap", "(IIII)I"⟩, prog_14_method_16_code, 5, (some .int), 1, 25, false)
theorem cb_X12_swap : awCallB m_X12_swap 4 := ⟨awBig_tab (n := 11) (by decide +kernel) (by decide +kernel), awBig_tab (n := 1491) (by decide +kernel) (by decide +kernel), by decide, by decide, by decide +kernel⟩
def m_X12_value : awM := (⟨"AlarmTowerModel", "value", "(ID)I"⟩, prog_14_method_17_code, 6, (some .int), 1, 21, false)
theorem cb_X12_value : awCallB m_X12_value 2 := ⟨awBig_tab (n := 11) (by decide +kernel) (by decide +kernel), awBig_tab (n := 1495) (by decide +kernel) (by decide +kernel), by decide, by decide, by decide +kernel⟩
def m_X12_tear : awM := (⟨"AlarmTowerModel", "tear", "(I)I"⟩, prog_14_method_18_code, 4, (some .int), 1, 21, false)
theorem cb_X12_tear : awCallB m_X12_tear 1 := ⟨awBig_tab (n := 11) (by decide +kernel) (by decide +kernel), awBig_tab (n := 1505) (by decide +kernel) (by decide +kernel), by decide, by decide, by decide +kernel⟩
def m_X12_has : awM := (⟨"AlarmTowerModel", "has", "(II)Z"⟩, prog_14_method_19_code, 3, (some .boolean), 0, 0, false)
theorem cb_X12_has : awCallB m_X12_has 2 := ⟨awBig_tab (n := 11) (by decide +kernel) (by decide +kernel), awBig_tab (n := 1525) (by decide +kernel) (by decide +kernel), by decide, by decide, by decide +kernel⟩
def m_X12_countOf : awM := (⟨"AlarmTowerModel", "countOf", "(IIIZJ)I"⟩, prog_14_method_20_code, 9, (some .int), 1, 22, false)
theorem cb_X12_countOf : awCallB m_X12_countOf 5 := ⟨awBig_tab (n := 11) (by decide +kernel) (by decide +kernel), awBig_tab (n := 1521) (by decide +kernel) (by decide +kernel), by decide, by decide, by decide +kernel⟩
def m_X12_isPart : awM := (⟨"AlarmTowerModel", "isPart", "(IIII)Z"⟩, prog_14_method_21_code, 5, (some .boolean), 2, 50, false)
theorem cb_X12_isPart : awCallB m_X12_isPart 4 := ⟨awBig_tab (n := 11) (by decide +kernel) (by decide +kernel), awBig_tab (n := 1537) (by decide +kernel) (by decide +kernel), by decide, by decide, by decide +kernel⟩
def m_X12_middle : awM := (⟨"AlarmTowerModel", "middle", "(IIII)J"⟩, prog_14_method_22_code, 14, (some .long), 1, 22, false)
theorem cb_X12_middle : awCallB m_X12_middle 4 := ⟨awBig_tab (n := 11) (by decide +kernel) (by decide +kernel), awBig_tab (n := 1545) (by decide +kernel) (by decide +kernel), by decide, by decide, by decide +kernel⟩
def m_X12_odd : awM := (⟨"AlarmTowerModel", "odd", "(IIIJ)I"⟩, prog_14_method_23_code, 11, (some .int), 2, 55, false)
theorem cb_X12_odd : awCallB m_X12_odd 4 := ⟨awBig_tab (n := 11) (by decide +kernel) (by decide +kernel), awBig_tab (n := 1541) (by decide +kernel) (by decide +kernel), by decide, by decide, by decide +kernel⟩
def m_X12_both : awM := (⟨"AlarmTowerModel", "both", "(II)I"⟩, prog_14_method_24_code, 3, (some .int), 0, 0, false)
theorem cb_X12_both : awCallB m_X12_both 2 := ⟨awBig_tab (n := 11) (by decide +kernel) (by decide +kernel), awBig_tab (n := 1533) (by decide +kernel) (by decide +kernel), by decide, by decide, by decide +kernel⟩
def m_X12_found : awM := (⟨"AlarmTowerModel", "found", "(III)I"⟩, prog_14_method_25_code, 6, (some .int), 3, 85, false)
theorem cb_X12_found : awCallB m_X12_found 3 := ⟨awBig_tab (n := 11) (by decide +kernel) (by decide +kernel), awBig_tab (n := 1517) (by decide +kernel) (by decide +kernel), by decide, by decide, by decide +kernel⟩
def m_X12_truthAt : awM := (⟨"AlarmTowerModel", "truthAt", "(III)I"⟩, prog_14_method_26_code, 4, (some .int), 0, 0, false)
theorem cb_X12_truthAt : awCallB m_X12_truthAt 3 := ⟨awBig_tab (n := 11) (by decide +kernel) (by decide +kernel), awBig_tab (n := 1529) (by decide +kernel) (by decide +kernel), by decide, by decide, by decide +kernel⟩
def m_X12_groupOf : awM := (⟨"AlarmTowerModel", "groupOf", "(II)I"⟩, prog_14_method_27_code, 6, (some .int), 0, 0, false)
theorem cb_X12_groupOf : awCallB m_X12_groupOf 2 := ⟨awBig_tab (n := 11) (by decide +kernel) (by decide +kernel), awBig_tab (n := 1553) (by decide +kernel) (by decide +kernel), by decide, by decide, by decide +kernel⟩
def m_X12_begin : awM := (⟨"AlarmTowerModel", "begin", "(III)V"⟩, prog_14_method_28_code, 5, none, 1, 25, false)
theorem cb_X12_begin : awCallB m_X12_begin 3 := ⟨awBig_tab (n := 11) (by decide +kernel) (by decide +kernel), awBig_tab (n := 1549) (by decide +kernel) (by decide +kernel), by decide, by decide, by decide +kernel⟩
def m_X12_judge : awM := (⟨"AlarmTowerModel", "judge", "(III)V"⟩, prog_14_method_29_code, 6, none, 4, 110, false)
theorem cb_X12_judge : awCallB m_X12_judge 3 := ⟨awBig_tab (n := 11) (by decide +kernel) (by decide +kernel), awBig_tab (n := 1513) (by decide +kernel) (by decide +kernel), by decide, by decide, by decide +kernel⟩
def m_X12_held : awM := (⟨"AlarmTowerModel", "held", "(I)Z"⟩, prog_14_method_30_code, 5, (some .boolean), 0, 0, false)
theorem cb_X12_held : awCallB m_X12_held 1 := ⟨awBig_tab (n := 11) (by decide +kernel) (by decide +kernel), awBig_tab (n := 1561) (by decide +kernel) (by decide +kernel), by decide, by decide, by decide +kernel⟩
def m_X12_silenced : awM := (⟨"AlarmTowerModel", "silenced", "(II)Z"⟩, prog_14_method_31_code, 5, (some .boolean), 1, 25, false)
theorem cb_X12_silenced : awCallB m_X12_silenced 2 := ⟨awBig_tab (n := 11) (by decide +kernel) (by decide +kernel), awBig_tab (n := 1565) (by decide +kernel) (by decide +kernel), by decide, by decide, by decide +kernel⟩
def m_X12_clearAll : awM := (⟨"AlarmTowerModel", "clearAll", "(I)V"⟩, prog_14_method_32_code, 4, none, 2, 49, false)
theorem cb_X12_clearAll : awCallB m_X12_clearAll 1 := ⟨awBig_tab (n := 11) (by decide +kernel) (by decide +kernel), awBig_tab (n := 1557) (by decide +kernel) (by decide +kernel), by decide, by decide, by decide +kernel⟩
def m_X12_place : awM := (⟨"AlarmTowerModel", "place", "(I)V"⟩, prog_14_method_33_code, 4, none, 1, 25, false)
theorem cb_X12_place : awCallB m_X12_place 1 := ⟨awBig_tab (n := 11) (by decide +kernel) (by decide +kernel), awBig_tab (n := 1589) (by decide +kernel) (by decide +kernel), by decide, by decide, by decide +kernel⟩
def m_X12_stepOf : awM := (⟨"AlarmTowerModel", "stepOf", "(II)I"⟩, prog_14_method_34_code, 6, (some .int), 0, 0, false)
theorem cb_X12_stepOf : awCallB m_X12_stepOf 2 := ⟨awBig_tab (n := 11) (by decide +kernel) (by decide +kernel), awBig_tab (n := 1593) (by decide +kernel) (by decide +kernel), by decide, by decide, by decide +kernel⟩
def m_X12_wake : awM := (⟨"AlarmTowerModel", "wake", "(I)V"⟩, prog_14_method_35_code, 4, none, 2, 48, false)
theorem cb_X12_wake : awCallB m_X12_wake 1 := ⟨awBig_tab (n := 11) (by decide +kernel) (by decide +kernel), awBig_tab (n := 1585) (by decide +kernel) (by decide +kernel), by decide, by decide, by decide +kernel⟩
def m_X12_reason : awM := (⟨"AlarmTowerModel", "reason", "(II)I"⟩, prog_14_method_36_code, 8, (some .int), 0, 0, false)
theorem cb_X12_reason : awCallB m_X12_reason 2 := ⟨awBig_tab (n := 11) (by decide +kernel) (by decide +kernel), awBig_tab (n := 1573) (by decide +kernel) (by decide +kernel), by decide, by decide, by decide +kernel⟩
def m_X12_write : awM := (⟨"AlarmTowerModel", "write", "(II)V"⟩, prog_14_method_37_code, 3, none, 0, 0, false)
theorem cb_X12_write : awCallB m_X12_write 2 := ⟨awBig_tab (n := 11) (by decide +kernel) (by decide +kernel), awBig_tab (n := 1581) (by decide +kernel) (by decide +kernel), by decide, by decide, by decide +kernel⟩
def m_X12_send : awM := (⟨"AlarmTowerModel", "send", "(III)V"⟩, prog_14_method_38_code, 6, none, 3, 71, false)
theorem cb_X12_send : awCallB m_X12_send 3 := ⟨awBig_tab (n := 11) (by decide +kernel) (by decide +kernel), awBig_tab (n := 1577) (by decide +kernel) (by decide +kernel), by decide, by decide, by decide +kernel⟩
def m_X12_goUp : awM := (⟨"AlarmTowerModel", "goUp", "(I)V"⟩, prog_14_method_39_code, 3, none, 0, 0, false)
theorem cb_X12_goUp : awCallB m_X12_goUp 1 := ⟨awBig_tab (n := 11) (by decide +kernel) (by decide +kernel), awBig_tab (n := 1569) (by decide +kernel) (by decide +kernel), by decide, by decide, by decide +kernel⟩
def m_X12_tick : awM := (⟨"AlarmTowerModel", "tick", "()I"⟩, prog_14_method_40_code, 5, (some .int), 5, 135, false)
theorem cb_X12_tick : awCallB m_X12_tick 0 := ⟨awBig_tab (n := 11) (by decide +kernel) (by decide +kernel), awBig_tab (n := 1509) (by decide +kernel) (by decide +kernel), by decide, by decide, by decide +kernel⟩
def m_X12_truth : awM := (⟨"AlarmTowerModel", "truth", "(II)I"⟩, prog_14_method_41_code, 3, (some .int), 1, 23, false)
theorem cb_X12_truth : awCallB m_X12_truth 2 := ⟨awBig_tab (n := 11) (by decide +kernel) (by decide +kernel), awBig_tab (n := 1597) (by decide +kernel) (by decide +kernel), by decide, by decide, by decide +kernel⟩
def m_X12_counts : awM := (⟨"AlarmTowerModel", "counts", "(III)I"⟩, prog_14_method_42_code, 5, (some .int), 1, 25, false)
theorem cb_X12_counts : awCallB m_X12_counts 3 := ⟨awBig_tab (n := 11) (by decide +kernel) (by decide +kernel), awBig_tab (n := 1601) (by decide +kernel) (by decide +kernel), by decide, by decide, by decide +kernel⟩
def m_X12_alarm : awM := (⟨"AlarmTowerModel", "alarm", "(II)I"⟩, prog_14_method_43_code, 3, (some .int), 0, 0, false)
theorem cb_X12_alarm : awCallB m_X12_alarm 2 := ⟨awBig_tab (n := 11) (by decide +kernel) (by decide +kernel), awBig_tab (n := 1605) (by decide +kernel) (by decide +kernel), by decide, by decide, by decide +kernel⟩
def m_X12_isLetter : awM := (⟨"AlarmTowerModel", "isLetter", "(I)Z"⟩, prog_14_method_44_code, 2, (some .boolean), 0, 0, false)
theorem cb_X12_isLetter : awCallB m_X12_isLetter 1 := ⟨awBig_tab (n := 11) (by decide +kernel) (by decide +kernel), awBig_tab (n := 1613) (by decide +kernel) (by decide +kernel), by decide, by decide, by decide +kernel⟩
def m_X12_letter : awM := (⟨"AlarmTowerModel", "letter", "(II)I"⟩, prog_14_method_45_code, 3, (some .int), 1, 21, false)
theorem cb_X12_letter : awCallB m_X12_letter 2 := ⟨awBig_tab (n := 11) (by decide +kernel) (by decide +kernel), awBig_tab (n := 1609) (by decide +kernel) (by decide +kernel), by decide, by decide, by decide +kernel⟩
def m_X12_holds : awM := (⟨"AlarmTowerModel", "holds", "(II)I"⟩, prog_14_method_46_code, 3, (some .int), 1, 21, false)
theorem cb_X12_holds : awCallB m_X12_holds 2 := ⟨awBig_tab (n := 11) (by decide +kernel) (by decide +kernel), awBig_tab (n := 1617) (by decide +kernel) (by decide +kernel), by decide, by decide, by decide +kernel⟩
def m_X12_why : awM := (⟨"AlarmTowerModel", "why", "(I)I"⟩, prog_14_method_47_code, 2, (some .int), 1, 21, false)
theorem cb_X12_why : awCallB m_X12_why 1 := ⟨awBig_tab (n := 11) (by decide +kernel) (by decide +kernel), awBig_tab (n := 1621) (by decide +kernel) (by decide +kernel), by decide, by decide, by decide +kernel⟩
def m_X12_whyNot : awM := (⟨"AlarmTowerModel", "whyNot", "(II)I"⟩, prog_14_method_48_code, 4, (some .int), 1, 21, false)
theorem cb_X12_whyNot : awCallB m_X12_whyNot 2 := ⟨awBig_tab (n := 11) (by decide +kernel) (by decide +kernel), awBig_tab (n := 1625) (by decide +kernel) (by decide +kernel), by decide, by decide, by decide +kernel⟩
def m_X12_awake : awM := (⟨"AlarmTowerModel", "awake", "(II)I"⟩, prog_14_method_49_code, 3, (some .int), 3, 71, false)
theorem cb_X12_awake : awCallB m_X12_awake 2 := ⟨awBig_tab (n := 11) (by decide +kernel) (by decide +kernel), awBig_tab (n := 1629) (by decide +kernel) (by decide +kernel), by decide, by decide, by decide +kernel⟩
def m_X12_wentTo : awM := (⟨"AlarmTowerModel", "wentTo", "(II)Z"⟩, prog_14_method_50_code, 5, (some .boolean), 0, 0, false)
theorem cb_X12_wentTo : awCallB m_X12_wentTo 2 := ⟨awBig_tab (n := 11) (by decide +kernel) (by decide +kernel), awBig_tab (n := 1637) (by decide +kernel) (by decide +kernel), by decide, by decide, by decide +kernel⟩
def m_X12_answer : awM := (⟨"AlarmTowerModel", "answer", "(II)I"⟩, prog_14_method_51_code, 4, (some .int), 1, 24, false)
theorem cb_X12_answer : awCallB m_X12_answer 2 := ⟨awBig_tab (n := 11) (by decide +kernel) (by decide +kernel), awBig_tab (n := 1633) (by decide +kernel) (by decide +kernel), by decide, by decide, by decide +kernel⟩
def m_X12_noise : awM := (⟨"AlarmTowerModel", "noise", "(I)I"⟩, prog_14_method_52_code, 4, (some .int), 1, 24, false)
theorem cb_X12_noise : awCallB m_X12_noise 1 := ⟨awBig_tab (n := 11) (by decide +kernel) (by decide +kernel), awBig_tab (n := 1641) (by decide +kernel) (by decide +kernel), by decide, by decide, by decide +kernel⟩
def m_X12_flap : awM := (⟨"AlarmTowerModel", "flap", "(II)I"⟩, prog_14_method_53_code, 5, (some .int), 1, 25, false)
theorem cb_X12_flap : awCallB m_X12_flap 2 := ⟨awBig_tab (n := 11) (by decide +kernel) (by decide +kernel), awBig_tab (n := 1645) (by decide +kernel) (by decide +kernel), by decide, by decide, by decide +kernel⟩
def m_X12_least : awM := (⟨"AlarmTowerModel", "least", "(II)I"⟩, prog_14_method_54_code, 10, (some .int), 1, 25, false)
theorem cb_X12_least : awCallB m_X12_least 2 := ⟨awBig_tab (n := 11) (by decide +kernel) (by decide +kernel), awBig_tab (n := 1650) (by decide +kernel) (by decide +kernel), by decide, by decide, by decide +kernel⟩
def m_X12_count : awM := (⟨"AlarmTowerModel", "count", "(I)I"⟩, prog_14_method_55_code, 4, (some .int), 0, 0, false)
theorem cb_X12_count : awCallB m_X12_count 1 := ⟨awBig_tab (n := 11) (by decide +kernel) (by decide +kernel), awBig_tab (n := 1654) (by decide +kernel) (by decide +kernel), by decide, by decide, by decide +kernel⟩
def m_X12_isBoard : awM := (⟨"AlarmTowerModel", "isBoard", "(I)Z"⟩, prog_14_method_56_code, 1, (some .boolean), 0, 0, false)
theorem cb_X12_isBoard : awCallB m_X12_isBoard 1 := ⟨awBig_tab (n := 11) (by decide +kernel) (by decide +kernel), awBig_tab (n := 1661) (by decide +kernel) (by decide +kernel), by decide, by decide, by decide +kernel⟩
def m_X12_keep : awM := (⟨"AlarmTowerModel", "keep", "(III)I"⟩, prog_14_method_57_code, 7, (some .int), 1, 25, false)
theorem cb_X12_keep : awCallB m_X12_keep 3 := ⟨awBig_tab (n := 11) (by decide +kernel) (by decide +kernel), awBig_tab (n := 1658) (by decide +kernel) (by decide +kernel), by decide, by decide, by decide +kernel⟩
def m_X12_make : awM := (⟨"AlarmTowerModel", "make", "(III)I"⟩, prog_14_method_58_code, 5, (some .int), 1, 25, false)
theorem cb_X12_make : awCallB m_X12_make 3 := ⟨awBig_tab (n := 11) (by decide +kernel) (by decide +kernel), awBig_tab (n := 1666) (by decide +kernel) (by decide +kernel), by decide, by decide, by decide +kernel⟩
def m_X12_element : awM := (⟨"AlarmTowerModel", "element", "(II)J"⟩, prog_14_method_59_code, 4, (some .long), 1, 25, false)
theorem cb_X12_element : awCallB m_X12_element 2 := ⟨awBig_tab (n := 11) (by decide +kernel) (by decide +kernel), awBig_tab (n := 1671) (by decide +kernel) (by decide +kernel), by decide, by decide, by decide +kernel⟩
def m_X12_hasPlaces : awM := (⟨"AlarmTowerModel", "hasPlaces", "(III)Z"⟩, prog_14_method_60_code, 4, (some .boolean), 0, 0, false)
theorem cb_X12_hasPlaces : awCallB m_X12_hasPlaces 3 := ⟨awBig_tab (n := 11) (by decide +kernel) (by decide +kernel), awBig_tab (n := 1679) (by decide +kernel) (by decide +kernel), by decide, by decide, by decide +kernel⟩
def m_X12_copy : awM := (⟨"AlarmTowerModel", "copy", "(IIIII)I"⟩, prog_14_method_61_code, 7, (some .int), 1, 23, false)
theorem cb_X12_copy : awCallB m_X12_copy 5 := ⟨awBig_tab (n := 11) (by decide +kernel) (by decide +kernel), awBig_tab (n := 1675) (by decide +kernel) (by decide +kernel), by decide, by decide, by decide +kernel⟩
def m_X12_denied : awM := (⟨"AlarmTowerModel", "denied", "(I)I"⟩, prog_14_method_62_code, 2, (some .int), 1, 20, false)
theorem cb_X12_denied : awCallB m_X12_denied 1 := ⟨awBig_tab (n := 11) (by decide +kernel) (by decide +kernel), awBig_tab (n := 1687) (by decide +kernel) (by decide +kernel), by decide, by decide, by decide +kernel⟩
def m_X12_weight : awM := (⟨"AlarmTowerModel", "weight", "(I)I"⟩, prog_14_method_63_code, 4, (some .int), 2, 41, false)
theorem cb_X12_weight : awCallB m_X12_weight 1 := ⟨awBig_tab (n := 11) (by decide +kernel) (by decide +kernel), awBig_tab (n := 1683) (by decide +kernel) (by decide +kernel), by decide, by decide, by decide +kernel⟩
def m_X12_toss : awM := (⟨"AlarmTowerModel", "toss", "(I)I"⟩, prog_14_method_64_code, 3, (some .int), 2, 41, false)
theorem cb_X12_toss : awCallB m_X12_toss 1 := ⟨awBig_tab (n := 11) (by decide +kernel) (by decide +kernel), awBig_tab (n := 1691) (by decide +kernel) (by decide +kernel), by decide, by decide, by decide +kernel⟩
def m_J9_floorMod_7cf53 : awM := (⟨"java/lang/Math", "floorMod", "(II)I"⟩, prog_21_method_50_code, 3, (some .int), 0, 0, false)
theorem cb_J9_floorMod_7cf53 : awCallB m_J9_floorMod_7cf53 2 := ⟨awBig_tab (n := 8) (by decide +kernel) (by decide +kernel), awBig_tab (n := 901) (by decide +kernel) (by decide +kernel), by decide, by decide, by decide +kernel⟩
def m_J9_abs_067f4 : awM := (⟨"java/lang/Math", "abs", "(J)J"⟩, prog_21_method_61_code, 2, (some .long), 0, 0, false)
theorem cb_J9_abs_067f4 : awCallB m_J9_abs_067f4 1 := ⟨awBig_tab (n := 8) (by decide +kernel) (by decide +kernel), awBig_tab (n := 591) (by decide +kernel) (by decide +kernel), by decide, by decide, by decide +kernel⟩
def m_J9_max_7cf53 : awM := (⟨"java/lang/Math", "max", "(II)I"⟩, prog_21_method_65_code, 2, (some .int), 0, 0, false)
theorem cb_J9_max_7cf53 : awCallB m_J9_max_7cf53 2 := ⟨awBig_tab (n := 8) (by decide +kernel) (by decide +kernel), awBig_tab (n := 133) (by decide +kernel) (by decide +kernel), by decide, by decide, by decide +kernel⟩
def m_J9_max_f86c9 : awM := (⟨"java/lang/Math", "max", "(JJ)J"⟩, prog_21_method_66_code, 4, (some .long), 0, 0, false)
theorem cb_J9_max_f86c9 : awCallB m_J9_max_f86c9 2 := ⟨awBig_tab (n := 8) (by decide +kernel) (by decide +kernel), awBig_tab (n := 594) (by decide +kernel) (by decide +kernel), by decide, by decide, by decide +kernel⟩
def m_J9_min_7cf53 : awM := (⟨"java/lang/Math", "min", "(II)I"⟩, prog_21_method_69_code, 2, (some .int), 0, 0, false)
theorem cb_J9_min_7cf53 : awCallB m_J9_min_7cf53 2 := ⟨awBig_tab (n := 8) (by decide +kernel) (by decide +kernel), awBig_tab (n := 169) (by decide +kernel) (by decide +kernel), by decide, by decide, by decide +kernel⟩
def m_Jxa1e45_init_da8c8 : awM := (⟨"java/util/AbstractCollection", "<init>", "()V"⟩, prog_26_method_1_code, 1, none, 1, 20, true)
theorem cb_Jxa1e45_init_da8c8 : awCallB m_Jxa1e45_init_da8c8 0 := ⟨awBig_tab (n := 2) (by decide +kernel) (by decide +kernel), awBig_tab (n := 46) (by decide +kernel) (by decide +kernel), by decide, by decide, by decide +kernel⟩
def m_Jxc12de_init_da8c8 : awM := (⟨"java/util/AbstractList", "<init>", "()V"⟩, prog_27_method_1_code, 1, none, 2, 40, true)
theorem cb_Jxc12de_init_da8c8 : awCallB m_Jxc12de_init_da8c8 0 := ⟨awBig_tab (n := 3) (by decide +kernel) (by decide +kernel), awBig_tab (n := 43) (by decide +kernel) (by decide +kernel), by decide, by decide, by decide +kernel⟩
def m_Jx4a65c_init_da8c8 : awM := (⟨"java/util/ArrayList", "<init>", "()V"⟩, prog_28_method_2_code, 1, none, 3, 60, true)
theorem cb_Jx4a65c_init_da8c8 : awCallB m_Jx4a65c_init_da8c8 0 := ⟨awBig_tab (n := 4) (by decide +kernel) (by decide +kernel), awBig_tab (n := 40) (by decide +kernel) (by decide +kernel), by decide, by decide, by decide +kernel⟩
def m_Jx4a65c_grow_92f84 : awM := (⟨"java/util/ArrayList", "grow", "(I)[Ljava/lang/Object;"⟩, prog_28_method_6_code, 4, (some (.array (.object "java/lang/Object"))), 3, 84, false)
theorem cb_Jx4a65c_grow_92f84 : awCallB m_Jx4a65c_grow_92f84 1 := ⟨awBig_tab (n := 4) (by decide +kernel) (by decide +kernel), awBig_tab (n := 127) (by decide +kernel) (by decide +kernel), by decide, by decide, by decide +kernel⟩
def m_Jx4a65c_grow_d5877 : awM := (⟨"java/util/ArrayList", "grow", "()[Ljava/lang/Object;"⟩, prog_28_method_7_code, 1, (some (.array (.object "java/lang/Object"))), 4, 107, false)
theorem cb_Jx4a65c_grow_d5877 : awCallB m_Jx4a65c_grow_d5877 0 := ⟨awBig_tab (n := 4) (by decide +kernel) (by decide +kernel), awBig_tab (n := 123) (by decide +kernel) (by decide +kernel), by decide, by decide, by decide +kernel⟩
def m_Jx4a65c_size_8abf5 : awM := (⟨"java/util/ArrayList", "size", "()I"⟩, prog_28_method_8_code, 1, (some .int), 0, 0, false)
theorem cb_Jx4a65c_size_8abf5 : awCallB m_Jx4a65c_size_8abf5 0 := ⟨awBig_tab (n := 4) (by decide +kernel) (by decide +kernel), awBig_tab (n := 234) (by decide +kernel) (by decide +kernel), by decide, by decide, by decide +kernel⟩
def m_Jx4a65c_elementData_915e3 : awM := (⟨"java/util/ArrayList", "elementData", "(I)Ljava/lang/Object;"⟩, prog_28_method_18_code, 2, (some (.object "java/lang/Object")), 0, 0, false)
theorem cb_Jx4a65c_elementData_915e3 : awCallB m_Jx4a65c_elementData_915e3 1 := ⟨awBig_tab (n := 4) (by decide +kernel) (by decide +kernel), awBig_tab (n := 382) (by decide +kernel) (by decide +kernel), by decide, by decide, by decide +kernel⟩
def m_Jx4a65c_get_915e3 : awM := (⟨"java/util/ArrayList", "get", "(I)Ljava/lang/Object;"⟩, prog_28_method_20_code, 2, (some (.object "java/lang/Object")), 2, 43, false)
theorem cb_Jx4a65c_get_915e3 : awCallB m_Jx4a65c_get_915e3 1 := ⟨awBig_tab (n := 4) (by decide +kernel) (by decide +kernel), awBig_tab (n := 372) (by decide +kernel) (by decide +kernel), by decide, by decide, by decide +kernel⟩
def m_Jx4a65c_add_72be8 : awM := (⟨"java/util/ArrayList", "add", "(Ljava/lang/Object;[Ljava/lang/Object;I)V"⟩, prog_28_method_24_code, 4, none, 5, 127, false)
theorem cb_Jx4a65c_add_72be8 : awCallB m_Jx4a65c_add_72be8 3 := ⟨awBig_tab (n := 4) (by decide +kernel) (by decide +kernel), awBig_tab (n := 119) (by decide +kernel) (by decide +kernel), by decide, by decide, by decide +kernel⟩
def m_Jx4a65c_add_9ea2d : awM := (⟨"java/util/ArrayList", "add", "(Ljava/lang/Object;)Z"⟩, prog_28_method_25_code, 2, (some .boolean), 6, 150, false)
theorem cb_Jx4a65c_add_9ea2d : awCallB m_Jx4a65c_add_9ea2d 1 := ⟨awBig_tab (n := 4) (by decide +kernel) (by decide +kernel), awBig_tab (n := 115) (by decide +kernel) (by decide +kernel), by decide, by decide, by decide +kernel⟩
def m_J7_fill_d0a16 : awM := (⟨"java/util/Arrays", "fill", "([JJ)V"⟩, prog_29_method_101_code, 5, none, 0, 0, false)
theorem cb_J7_fill_d0a16 : awCallB m_J7_fill_d0a16 2 := ⟨awBig_tab (n := 9) (by decide +kernel) (by decide +kernel), awBig_tab (n := 1025) (by decide +kernel) (by decide +kernel), by decide, by decide, by decide +kernel⟩
def m_J7_fill_53178 : awM := (⟨"java/util/Arrays", "fill", "([II)V"⟩, prog_29_method_103_code, 4, none, 0, 0, false)
theorem cb_J7_fill_53178 : awCallB m_J7_fill_53178 2 := ⟨awBig_tab (n := 9) (by decide +kernel) (by decide +kernel), awBig_tab (n := 893) (by decide +kernel) (by decide +kernel), by decide, by decide, by decide +kernel⟩
def m_J7_copyOf_1904c : awM := (⟨"java/util/Arrays", "copyOf", "([Ljava/lang/Object;I)[Ljava/lang/Object;"⟩, prog_29_method_119_code, 2, (some (.array (.object "java/lang/Object"))), 2, 63, false)
theorem cb_J7_copyOf_1904c : awCallB m_J7_copyOf_1904c 2 := ⟨awBig_tab (n := 9) (by decide +kernel) (by decide +kernel), awBig_tab (n := 140) (by decide +kernel) (by decide +kernel), by decide, by decide, by decide +kernel⟩
def m_J7_copyOf_6403c : awM := (⟨"java/util/Arrays", "copyOf", "([Ljava/lang/Object;ILjava/lang/Class;)[Ljava/lang/Object;"⟩, prog_29_method_120_code, 4, (some (.array (.object "java/lang/Object"))), 1, 40, false)
theorem cb_J7_copyOf_6403c : awCallB m_J7_copyOf_6403c 3 := ⟨awBig_tab (n := 9) (by decide +kernel) (by decide +kernel), awBig_tab (n := 163) (by decide +kernel) (by decide +kernel), by decide, by decide, by decide +kernel⟩
def m_J15_checkIndex_7cf53 : awM := (⟨"java/util/Objects", "checkIndex", "(II)I"⟩, prog_32_method_17_code, 2, (some .int), 1, 22, false)
theorem cb_J15_checkIndex_7cf53 : awCallB m_J15_checkIndex_7cf53 2 := ⟨awBig_tab (n := 15) (by decide +kernel) (by decide +kernel), awBig_tab (n := 375) (by decide +kernel) (by decide +kernel), by decide, by decide, by decide +kernel⟩
def m_J8_newLength_cabcc : awM := (⟨"jdk/internal/util/ArraysSupport", "newLength", "(III)I"⟩, prog_35_method_27_code, 4, (some .int), 1, 22, false)
theorem cb_J8_newLength_cabcc : awCallB m_J8_newLength_cabcc 3 := ⟨awBig_tab (n := 7) (by decide +kernel) (by decide +kernel), awBig_tab (n := 130) (by decide +kernel) (by decide +kernel), by decide, by decide, by decide +kernel⟩
def m_J8_hugeLength_7cf53 : awM := (⟨"jdk/internal/util/ArraysSupport", "hugeLength", "(II)I"⟩, prog_35_method_28_code, 3, (some .int), 0, 0, false)
theorem cb_J8_hugeLength_7cf53 : awCallB m_J8_hugeLength_7cf53 2 := ⟨awBig_tab (n := 7) (by decide +kernel) (by decide +kernel), awBig_tab (n := 137) (by decide +kernel) (by decide +kernel), by decide, by decide, by decide +kernel⟩
def m_J3_checkIndex_8e157 : awM := (⟨"jdk/internal/util/Preconditions", "checkIndex", "(IILjava/util/function/BiFunction;)I"⟩, prog_36_method_11_code, 3, (some .int), 0, 0, false)
theorem cb_J3_checkIndex_8e157 : awCallB m_J3_checkIndex_8e157 3 := ⟨awBig_tab (n := 16) (by decide +kernel) (by decide +kernel), awBig_tab (n := 378) (by decide +kernel) (by decide +kernel), by decide, by decide, by decide +kernel⟩
theorem ci_X11_9 : awCI "AlarmTower" 9 m_Jx4a65c_init_da8c8 := ⟨awBig_tab (n := 38) (by decide +kernel) (by decide +kernel), awBig_tab (n := 39) (by decide +kernel) (by decide +kernel)⟩
theorem cv_X11_70 : awCV "AlarmTower" 70 m_Jx4a65c_add_9ea2d := ⟨awBig_tab (n := 112) (by decide +kernel) (by decide +kernel), awBig_tab (n := 113) (by decide +kernel) (by decide +kernel), awBig_tab (n := 114) (by decide +kernel) (by decide +kernel)⟩
theorem cs_X11_74 : awCS "AlarmTower" 74 m_X11_isWithin := ⟨awBig_tab (n := 228) (by decide +kernel) (by decide +kernel), awBig_tab (n := 229) (by decide +kernel) (by decide +kernel)⟩
theorem cv_X11_78 : awCV "AlarmTower" 78 m_Jx4a65c_size_8abf5 := ⟨awBig_tab (n := 231) (by decide +kernel) (by decide +kernel), awBig_tab (n := 232) (by decide +kernel) (by decide +kernel), awBig_tab (n := 233) (by decide +kernel) (by decide +kernel)⟩
theorem ci_X11_84 : awCI "AlarmTower" 84 m_X8_init := ⟨awBig_tab (n := 237) (by decide +kernel) (by decide +kernel), awBig_tab (n := 238) (by decide +kernel) (by decide +kernel)⟩
theorem cv_X11_87 : awCV "AlarmTower" 87 m_X11_isLook := ⟨awBig_tab (n := 264) (by decide +kernel) (by decide +kernel), awBig_tab (n := 266) (by decide +kernel) (by decide +kernel), awBig_sel (n := 3) (by decide +kernel) (by decide +kernel)⟩
theorem cs_X11_91 : awCS "AlarmTower" 91 m_X11_isManner := ⟨awBig_tab (n := 268) (by decide +kernel) (by decide +kernel), awBig_tab (n := 269) (by decide +kernel) (by decide +kernel)⟩
theorem ci_X11_97 : awCI "AlarmTower" 97 m_X5_init := ⟨awBig_tab (n := 273) (by decide +kernel) (by decide +kernel), awBig_tab (n := 274) (by decide +kernel) (by decide +kernel)⟩
theorem cv_X11_103 : awCV "AlarmTower" 103 m_X11_ruleAt := ⟨awBig_tab (n := 365) (by decide +kernel) (by decide +kernel), awBig_tab (n := 367) (by decide +kernel) (by decide +kernel), awBig_sel (n := 4) (by decide +kernel) (by decide +kernel)⟩
theorem cv_X11_107 : awCV "AlarmTower" 107 m_X11_isHeldOver := ⟨awBig_tab (n := 383) (by decide +kernel) (by decide +kernel), awBig_tab (n := 385) (by decide +kernel) (by decide +kernel), awBig_sel (n := 5) (by decide +kernel) (by decide +kernel)⟩
theorem cv_X11_111 : awCV "AlarmTower" 111 m_X5_addHolder := ⟨awBig_tab (n := 391) (by decide +kernel) (by decide +kernel), awBig_tab (n := 392) (by decide +kernel) (by decide +kernel), awBig_tab (n := 393) (by decide +kernel) (by decide +kernel)⟩
theorem cv_X11_114 : awCV "AlarmTower" 114 m_Jx4a65c_get_915e3 := ⟨awBig_tab (n := 369) (by decide +kernel) (by decide +kernel), awBig_tab (n := 370) (by decide +kernel) (by decide +kernel), awBig_tab (n := 371) (by decide +kernel) (by decide +kernel)⟩
theorem cv_X11_118 : awCV "AlarmTower" 118 m_X5_holders := ⟨awBig_tab (n := 387) (by decide +kernel) (by decide +kernel), awBig_tab (n := 388) (by decide +kernel) (by decide +kernel), awBig_tab (n := 389) (by decide +kernel) (by decide +kernel)⟩
theorem cs_X11_121 : awCS "AlarmTower" 121 m_X11_areTicks := ⟨awBig_tab (n := 399) (by decide +kernel) (by decide +kernel), awBig_tab (n := 400) (by decide +kernel) (by decide +kernel)⟩
theorem cv_X11_124 : awCV "AlarmTower" 124 m_X4_hasHand := ⟨awBig_tab (n := 402) (by decide +kernel) (by decide +kernel), awBig_tab (n := 403) (by decide +kernel) (by decide +kernel), awBig_tab (n := 404) (by decide +kernel) (by decide +kernel)⟩
theorem ci_X11_129 : awCI "AlarmTower" 129 m_X7_init := ⟨awBig_tab (n := 408) (by decide +kernel) (by decide +kernel), awBig_tab (n := 409) (by decide +kernel) (by decide +kernel)⟩
theorem cv_X11_132 : awCV "AlarmTower" 132 m_X4_addHand := ⟨awBig_tab (n := 437) (by decide +kernel) (by decide +kernel), awBig_tab (n := 438) (by decide +kernel) (by decide +kernel), awBig_tab (n := 439) (by decide +kernel) (by decide +kernel)⟩
theorem ci_X11_137 : awCI "AlarmTower" 137 m_X6_init := ⟨awBig_tab (n := 447) (by decide +kernel) (by decide +kernel), awBig_tab (n := 448) (by decide +kernel) (by decide +kernel)⟩
theorem cv_X11_138 : awCV "AlarmTower" 138 m_X4_addShift := ⟨awBig_tab (n := 466) (by decide +kernel) (by decide +kernel), awBig_tab (n := 467) (by decide +kernel) (by decide +kernel), awBig_tab (n := 468) (by decide +kernel) (by decide +kernel)⟩
theorem ci_X11_144 : awCI "AlarmTower" 144 m_X9_init := ⟨awBig_tab (n := 478) (by decide +kernel) (by decide +kernel), awBig_tab (n := 479) (by decide +kernel) (by decide +kernel)⟩
theorem cv_X11_145 : awCV "AlarmTower" 145 m_X4_addSwap := ⟨awBig_tab (n := 497) (by decide +kernel) (by decide +kernel), awBig_tab (n := 498) (by decide +kernel) (by decide +kernel), awBig_tab (n := 499) (by decide +kernel) (by decide +kernel)⟩
theorem cv_X11_149 : awCV "AlarmTower" 149 m_X11_sourceAt := ⟨awBig_tab (n := 505) (by decide +kernel) (by decide +kernel), awBig_tab (n := 507) (by decide +kernel) (by decide +kernel), awBig_sel (n := 6) (by decide +kernel) (by decide +kernel)⟩
theorem cv_X11_157 : awCV "AlarmTower" 157 m_X8_hasAt := ⟨awBig_tab (n := 511) (by decide +kernel) (by decide +kernel), awBig_tab (n := 512) (by decide +kernel) (by decide +kernel), awBig_tab (n := 513) (by decide +kernel) (by decide +kernel)⟩
theorem cv_X11_160 : awCV "AlarmTower" 160 m_X8_put := ⟨awBig_tab (n := 515) (by decide +kernel) (by decide +kernel), awBig_tab (n := 516) (by decide +kernel) (by decide +kernel), awBig_tab (n := 517) (by decide +kernel) (by decide +kernel)⟩
theorem cs_X11_164 : awCS "AlarmTower" 164 m_X11_bit := ⟨awBig_tab (n := 519) (by decide +kernel) (by decide +kernel), awBig_tab (n := 520) (by decide +kernel) (by decide +kernel)⟩
theorem cv_X11_168 : awCV "AlarmTower" 168 m_X8_drop := ⟨awBig_tab (n := 526) (by decide +kernel) (by decide +kernel), awBig_tab (n := 527) (by decide +kernel) (by decide +kernel), awBig_tab (n := 528) (by decide +kernel) (by decide +kernel)⟩
theorem cv_X11_172 : awCV "AlarmTower" 172 m_X11_lookByRules := ⟨awBig_tab (n := 534) (by decide +kernel) (by decide +kernel), awBig_tab (n := 536) (by decide +kernel) (by decide +kernel), awBig_sel (n := 7) (by decide +kernel) (by decide +kernel)⟩
theorem cv_X11_175 : awCV "AlarmTower" 175 m_X11_markAlarms := ⟨awBig_tab (n := 712) (by decide +kernel) (by decide +kernel), awBig_tab (n := 714) (by decide +kernel) (by decide +kernel), awBig_sel (n := 17) (by decide +kernel) (by decide +kernel)⟩
theorem cv_X11_178 : awCV "AlarmTower" 178 m_X11_climbRows := ⟨awBig_tab (n := 747) (by decide +kernel) (by decide +kernel), awBig_tab (n := 749) (by decide +kernel) (by decide +kernel), awBig_sel (n := 21) (by decide +kernel) (by decide +kernel)⟩
theorem cv_X11_181 : awCV "AlarmTower" 181 m_X11_sendLetters := ⟨awBig_tab (n := 765) (by decide +kernel) (by decide +kernel), awBig_tab (n := 767) (by decide +kernel) (by decide +kernel), awBig_sel (n := 23) (by decide +kernel) (by decide +kernel)⟩
theorem cv_X11_185 : awCV "AlarmTower" 185 m_X11_lookAt := ⟨awBig_tab (n := 538) (by decide +kernel) (by decide +kernel), awBig_tab (n := 540) (by decide +kernel) (by decide +kernel), awBig_sel (n := 8) (by decide +kernel) (by decide +kernel)⟩
theorem cv_X11_190 : awCV "AlarmTower" 190 m_X5_watchAt := ⟨awBig_tab (n := 542) (by decide +kernel) (by decide +kernel), awBig_tab (n := 543) (by decide +kernel) (by decide +kernel), awBig_tab (n := 544) (by decide +kernel) (by decide +kernel)⟩
theorem cv_X11_194 : awCV "AlarmTower" 194 m_X5_looksAt := ⟨awBig_tab (n := 546) (by decide +kernel) (by decide +kernel), awBig_tab (n := 547) (by decide +kernel) (by decide +kernel), awBig_tab (n := 548) (by decide +kernel) (by decide +kernel)⟩
theorem cv_X11_201 : awCV "AlarmTower" 201 m_X11_truthOfBoth := ⟨awBig_tab (n := 550) (by decide +kernel) (by decide +kernel), awBig_tab (n := 552) (by decide +kernel) (by decide +kernel), awBig_sel (n := 9) (by decide +kernel) (by decide +kernel)⟩
theorem cv_X11_205 : awCV "AlarmTower" 205 m_X5_truthOf := ⟨awBig_tab (n := 558) (by decide +kernel) (by decide +kernel), awBig_tab (n := 559) (by decide +kernel) (by decide +kernel), awBig_tab (n := 560) (by decide +kernel) (by decide +kernel)⟩
theorem cv_X11_209 : awCV "AlarmTower" 209 m_X10_note := ⟨awBig_tab (n := 595) (by decide +kernel) (by decide +kernel), awBig_tab (n := 596) (by decide +kernel) (by decide +kernel), awBig_tab (n := 597) (by decide +kernel) (by decide +kernel)⟩
theorem cv_X11_214 : awCV "AlarmTower" 214 m_X5_imagine := ⟨awBig_tab (n := 599) (by decide +kernel) (by decide +kernel), awBig_tab (n := 600) (by decide +kernel) (by decide +kernel), awBig_tab (n := 601) (by decide +kernel) (by decide +kernel)⟩
theorem cv_X11_228 : awCV "AlarmTower" 228 m_X11_beginAlarm := ⟨awBig_tab (n := 603) (by decide +kernel) (by decide +kernel), awBig_tab (n := 605) (by decide +kernel) (by decide +kernel), awBig_sel (n := 15) (by decide +kernel) (by decide +kernel)⟩
theorem cv_X11_238 : awCV "AlarmTower" 238 m_X0_end := ⟨awBig_tab (n := 708) (by decide +kernel) (by decide +kernel), awBig_tab (n := 709) (by decide +kernel) (by decide +kernel), awBig_tab (n := 710) (by decide +kernel) (by decide +kernel)⟩
theorem cv_X11_246 : awCV "AlarmTower" 246 m_X11_watchOf := ⟨awBig_tab (n := 554) (by decide +kernel) (by decide +kernel), awBig_tab (n := 556) (by decide +kernel) (by decide +kernel), awBig_sel (n := 10) (by decide +kernel) (by decide +kernel)⟩
theorem cv_X11_256 : awCV "AlarmTower" 256 m_X11_groupOf := ⟨awBig_tab (n := 609) (by decide +kernel) (by decide +kernel), awBig_tab (n := 611) (by decide +kernel) (by decide +kernel), awBig_sel (n := 16) (by decide +kernel) (by decide +kernel)⟩
theorem ci_X11_260 : awCI "AlarmTower" 260 m_X0_init := ⟨awBig_tab (n := 650) (by decide +kernel) (by decide +kernel), awBig_tab (n := 651) (by decide +kernel) (by decide +kernel)⟩
theorem cv_X11_265 : awCV "AlarmTower" 265 m_X2_isAlike := ⟨awBig_tab (n := 614) (by decide +kernel) (by decide +kernel), awBig_tab (n := 615) (by decide +kernel) (by decide +kernel), awBig_tab (n := 616) (by decide +kernel) (by decide +kernel)⟩
theorem ci_X11_269 : awCI "AlarmTower" 269 m_X2_init := ⟨awBig_tab (n := 619) (by decide +kernel) (by decide +kernel), awBig_tab (n := 620) (by decide +kernel) (by decide +kernel)⟩
theorem cv_X11_272 : awCV "AlarmTower" 272 m_X0_lasts := ⟨awBig_tab (n := 716) (by decide +kernel) (by decide +kernel), awBig_tab (n := 717) (by decide +kernel) (by decide +kernel), awBig_tab (n := 718) (by decide +kernel) (by decide +kernel)⟩
theorem cv_X11_276 : awCV "AlarmTower" 276 m_X11_isHeld := ⟨awBig_tab (n := 720) (by decide +kernel) (by decide +kernel), awBig_tab (n := 722) (by decide +kernel) (by decide +kernel), awBig_sel (n := 18) (by decide +kernel) (by decide +kernel)⟩
theorem cv_X11_280 : awCV "AlarmTower" 280 m_X11_isSilenced := ⟨awBig_tab (n := 735) (by decide +kernel) (by decide +kernel), awBig_tab (n := 737) (by decide +kernel) (by decide +kernel), awBig_sel (n := 20) (by decide +kernel) (by decide +kernel)⟩
theorem cv_X11_284 : awCV "AlarmTower" 284 m_X0_mark := ⟨awBig_tab (n := 743) (by decide +kernel) (by decide +kernel), awBig_tab (n := 744) (by decide +kernel) (by decide +kernel), awBig_tab (n := 745) (by decide +kernel) (by decide +kernel)⟩
theorem cv_X11_292 : awCV "AlarmTower" 292 m_X5_isHeldBy := ⟨awBig_tab (n := 724) (by decide +kernel) (by decide +kernel), awBig_tab (n := 725) (by decide +kernel) (by decide +kernel), awBig_tab (n := 726) (by decide +kernel) (by decide +kernel)⟩
theorem cv_X11_299 : awCV "AlarmTower" 299 m_X11_lastsLike := ⟨awBig_tab (n := 728) (by decide +kernel) (by decide +kernel), awBig_tab (n := 730) (by decide +kernel) (by decide +kernel), awBig_sel (n := 19) (by decide +kernel) (by decide +kernel)⟩
theorem cs_X11_302 : awCS "AlarmTower" 302 m_X11_isLike := ⟨awBig_tab (n := 732) (by decide +kernel) (by decide +kernel), awBig_tab (n := 733) (by decide +kernel) (by decide +kernel)⟩
theorem cv_X11_309 : awCV "AlarmTower" 309 m_X7_fits := ⟨awBig_tab (n := 739) (by decide +kernel) (by decide +kernel), awBig_tab (n := 740) (by decide +kernel) (by decide +kernel), awBig_tab (n := 741) (by decide +kernel) (by decide +kernel)⟩
theorem cv_X11_314 : awCV "AlarmTower" 314 m_X3_climb := ⟨awBig_tab (n := 752) (by decide +kernel) (by decide +kernel), awBig_tab (n := 753) (by decide +kernel) (by decide +kernel), awBig_tab (n := 754) (by decide +kernel) (by decide +kernel)⟩
theorem cv_X11_317 : awCV "AlarmTower" 317 m_X11_lookByGroups := ⟨awBig_tab (n := 769) (by decide +kernel) (by decide +kernel), awBig_tab (n := 771) (by decide +kernel) (by decide +kernel), awBig_sel (n := 24) (by decide +kernel) (by decide +kernel)⟩
theorem cv_X11_320 : awCV "AlarmTower" 320 m_X11_reasonOf := ⟨awBig_tab (n := 791) (by decide +kernel) (by decide +kernel), awBig_tab (n := 793) (by decide +kernel) (by decide +kernel), awBig_sel (n := 25) (by decide +kernel) (by decide +kernel)⟩
theorem cv_X11_324 : awCV "AlarmTower" 324 m_X11_sendLetter := ⟨awBig_tab (n := 799) (by decide +kernel) (by decide +kernel), awBig_tab (n := 801) (by decide +kernel) (by decide +kernel), awBig_sel (n := 26) (by decide +kernel) (by decide +kernel)⟩
theorem cv_X11_328 : awCV "AlarmTower" 328 m_X2_forget := ⟨awBig_tab (n := 773) (by decide +kernel) (by decide +kernel), awBig_tab (n := 774) (by decide +kernel) (by decide +kernel), awBig_tab (n := 775) (by decide +kernel) (by decide +kernel)⟩
theorem cv_X11_335 : awCV "AlarmTower" 335 m_X2_see := ⟨awBig_tab (n := 777) (by decide +kernel) (by decide +kernel), awBig_tab (n := 778) (by decide +kernel) (by decide +kernel), awBig_tab (n := 779) (by decide +kernel) (by decide +kernel)⟩
theorem cv_X11_343 : awCV "AlarmTower" 343 m_X2_hasFresh := ⟨awBig_tab (n := 795) (by decide +kernel) (by decide +kernel), awBig_tab (n := 796) (by decide +kernel) (by decide +kernel), awBig_tab (n := 797) (by decide +kernel) (by decide +kernel)⟩
theorem ci_X11_358 : awCI "AlarmTower" 358 m_X3_init := ⟨awBig_tab (n := 803) (by decide +kernel) (by decide +kernel), awBig_tab (n := 804) (by decide +kernel) (by decide +kernel)⟩
theorem cv_X11_360 : awCV "AlarmTower" 360 m_X0_isClear := ⟨awBig_tab (n := 850) (by decide +kernel) (by decide +kernel), awBig_tab (n := 783) (by decide +kernel) (by decide +kernel), awBig_tab (n := 784) (by decide +kernel) (by decide +kernel)⟩
theorem cv_X11_363 : awCV "AlarmTower" 363 m_X3_add := ⟨awBig_tab (n := 851) (by decide +kernel) (by decide +kernel), awBig_tab (n := 852) (by decide +kernel) (by decide +kernel), awBig_tab (n := 853) (by decide +kernel) (by decide +kernel)⟩
theorem cv_X11_365 : awCV "AlarmTower" 365 m_X0_tellLasting := ⟨awBig_tab (n := 855) (by decide +kernel) (by decide +kernel), awBig_tab (n := 856) (by decide +kernel) (by decide +kernel), awBig_tab (n := 857) (by decide +kernel) (by decide +kernel)⟩
theorem cv_X11_368 : awCV "AlarmTower" 368 m_X0_wantsEndTold := ⟨awBig_tab (n := 859) (by decide +kernel) (by decide +kernel), awBig_tab (n := 860) (by decide +kernel) (by decide +kernel), awBig_tab (n := 861) (by decide +kernel) (by decide +kernel)⟩
theorem cv_X11_371 : awCV "AlarmTower" 371 m_X0_tellEnd := ⟨awBig_tab (n := 864) (by decide +kernel) (by decide +kernel), awBig_tab (n := 865) (by decide +kernel) (by decide +kernel), awBig_tab (n := 866) (by decide +kernel) (by decide +kernel)⟩
theorem cv_X11_377 : awCV "AlarmTower" 377 m_X4_fillRow := ⟨awBig_tab (n := 868) (by decide +kernel) (by decide +kernel), awBig_tab (n := 869) (by decide +kernel) (by decide +kernel), awBig_tab (n := 870) (by decide +kernel) (by decide +kernel)⟩
theorem cv_X11_385 : awCV "AlarmTower" 385 m_X11_alarmAt := ⟨awBig_tab (n := 919) (by decide +kernel) (by decide +kernel), awBig_tab (n := 921) (by decide +kernel) (by decide +kernel), awBig_sel (n := 31) (by decide +kernel) (by decide +kernel)⟩
theorem cv_X11_409 : awCV "AlarmTower" 409 m_X11_letterAt := ⟨awBig_tab (n := 927) (by decide +kernel) (by decide +kernel), awBig_tab (n := 929) (by decide +kernel) (by decide +kernel), awBig_sel (n := 32) (by decide +kernel) (by decide +kernel)⟩
theorem cv_X11_418 : awCV "AlarmTower" 418 m_X3_alarmAt := ⟨awBig_tab (n := 931) (by decide +kernel) (by decide +kernel), awBig_tab (n := 932) (by decide +kernel) (by decide +kernel), awBig_tab (n := 933) (by decide +kernel) (by decide +kernel)⟩
theorem cv_X11_420 : awCV "AlarmTower" 420 m_X3_latestHand := ⟨awBig_tab (n := 935) (by decide +kernel) (by decide +kernel), awBig_tab (n := 936) (by decide +kernel) (by decide +kernel), awBig_tab (n := 937) (by decide +kernel) (by decide +kernel)⟩
theorem cv_X11_435 : awCV "AlarmTower" 435 m_X0_isFresh := ⟨awBig_tab (n := 951) (by decide +kernel) (by decide +kernel), awBig_tab (n := 787) (by decide +kernel) (by decide +kernel), awBig_tab (n := 788) (by decide +kernel) (by decide +kernel)⟩
theorem cv_X11_438 : awCV "AlarmTower" 438 m_X3_wentTo := ⟨awBig_tab (n := 960) (by decide +kernel) (by decide +kernel), awBig_tab (n := 961) (by decide +kernel) (by decide +kernel), awBig_tab (n := 962) (by decide +kernel) (by decide +kernel)⟩
theorem cv_X11_441 : awCV "AlarmTower" 441 m_X3_isAnswered := ⟨awBig_tab (n := 964) (by decide +kernel) (by decide +kernel), awBig_tab (n := 757) (by decide +kernel) (by decide +kernel), awBig_tab (n := 758) (by decide +kernel) (by decide +kernel)⟩
theorem cs_X11_445 : awCS "AlarmTower" 445 m_J9_max_7cf53 := ⟨awBig_tab (n := 973) (by decide +kernel) (by decide +kernel), awBig_tab (n := 132) (by decide +kernel) (by decide +kernel)⟩
theorem cv_X11_451 : awCV "AlarmTower" 451 m_X5_begunAt := ⟨awBig_tab (n := 978) (by decide +kernel) (by decide +kernel), awBig_tab (n := 979) (by decide +kernel) (by decide +kernel), awBig_tab (n := 980) (by decide +kernel) (by decide +kernel)⟩
theorem cv_X11_457 : awCV "AlarmTower" 457 m_X11_lastingCount := ⟨awBig_tab (n := 986) (by decide +kernel) (by decide +kernel), awBig_tab (n := 988) (by decide +kernel) (by decide +kernel), awBig_sel (n := 33) (by decide +kernel) (by decide +kernel)⟩
theorem cv_X11_460 : awCV "AlarmTower" 460 m_X11_unansweredCount := ⟨awBig_tab (n := 990) (by decide +kernel) (by decide +kernel), awBig_tab (n := 992) (by decide +kernel) (by decide +kernel), awBig_sel (n := 34) (by decide +kernel) (by decide +kernel)⟩
theorem cv_X11_463 : awCV "AlarmTower" 463 m_X11_boardAt := ⟨awBig_tab (n := 998) (by decide +kernel) (by decide +kernel), awBig_tab (n := 1000) (by decide +kernel) (by decide +kernel), awBig_sel (n := 35) (by decide +kernel) (by decide +kernel)⟩
theorem cv_X11_467 : awCV "AlarmTower" 467 m_X1_keepBare := ⟨awBig_tab (n := 1002) (by decide +kernel) (by decide +kernel), awBig_tab (n := 1003) (by decide +kernel) (by decide +kernel), awBig_tab (n := 1004) (by decide +kernel) (by decide +kernel)⟩
theorem cs_X11_470 : awCS "AlarmTower" 470 m_X11_keepAlarm := ⟨awBig_tab (n := 1006) (by decide +kernel) (by decide +kernel), awBig_tab (n := 1007) (by decide +kernel) (by decide +kernel)⟩
theorem cv_X11_474 : awCV "AlarmTower" 474 m_X11_keepRow := ⟨awBig_tab (n := 1013) (by decide +kernel) (by decide +kernel), awBig_tab (n := 1015) (by decide +kernel) (by decide +kernel), awBig_sel (n := 36) (by decide +kernel) (by decide +kernel)⟩
theorem cv_X11_478 : awCV "AlarmTower" 478 m_X1_keepAlarm := ⟨awBig_tab (n := 1009) (by decide +kernel) (by decide +kernel), awBig_tab (n := 1010) (by decide +kernel) (by decide +kernel), awBig_tab (n := 1011) (by decide +kernel) (by decide +kernel)⟩
theorem cs_X11_480 : awCS "AlarmTower" 480 m_J9_min_7cf53 := ⟨awBig_tab (n := 1017) (by decide +kernel) (by decide +kernel), awBig_tab (n := 168) (by decide +kernel) (by decide +kernel)⟩
theorem cv_X11_483 : awCV "AlarmTower" 483 m_X1_keepRow := ⟨awBig_tab (n := 1018) (by decide +kernel) (by decide +kernel), awBig_tab (n := 1019) (by decide +kernel) (by decide +kernel), awBig_tab (n := 1020) (by decide +kernel) (by decide +kernel)⟩
theorem cv_X11_485 : awCV "AlarmTower" 485 m_X8_at := ⟨awBig_tab (n := 1026) (by decide +kernel) (by decide +kernel), awBig_tab (n := 570) (by decide +kernel) (by decide +kernel), awBig_tab (n := 571) (by decide +kernel) (by decide +kernel)⟩
theorem cv_X11_489 : awCV "AlarmTower" 489 m_X1_put := ⟨awBig_tab (n := 1027) (by decide +kernel) (by decide +kernel), awBig_tab (n := 1028) (by decide +kernel) (by decide +kernel), awBig_tab (n := 1029) (by decide +kernel) (by decide +kernel)⟩
theorem cv_X11_497 : awCV "AlarmTower" 497 m_X1_isRow := ⟨awBig_tab (n := 1039) (by decide +kernel) (by decide +kernel), awBig_tab (n := 1040) (by decide +kernel) (by decide +kernel), awBig_tab (n := 1041) (by decide +kernel) (by decide +kernel)⟩
theorem cv_X11_506 : awCV "AlarmTower" 506 m_X1_get := ⟨awBig_tab (n := 1160) (by decide +kernel) (by decide +kernel), awBig_tab (n := 1161) (by decide +kernel) (by decide +kernel), awBig_tab (n := 1162) (by decide +kernel) (by decide +kernel)⟩
theorem cv_X11_509 : awCV "AlarmTower" 509 m_X1_hasSpan := ⟨awBig_tab (n := 1043) (by decide +kernel) (by decide +kernel), awBig_tab (n := 1044) (by decide +kernel) (by decide +kernel), awBig_tab (n := 1045) (by decide +kernel) (by decide +kernel)⟩
theorem cv_X11_521 : awCV "AlarmTower" 521 m_X11_refusalOfAlarm := ⟨awBig_tab (n := 1052) (by decide +kernel) (by decide +kernel), awBig_tab (n := 1054) (by decide +kernel) (by decide +kernel), awBig_sel (n := 37) (by decide +kernel) (by decide +kernel)⟩
theorem cv_X11_524 : awCV "AlarmTower" 524 m_X11_alarmOn := ⟨awBig_tab (n := 1056) (by decide +kernel) (by decide +kernel), awBig_tab (n := 1058) (by decide +kernel) (by decide +kernel), awBig_sel (n := 38) (by decide +kernel) (by decide +kernel)⟩
theorem cs_X11_527 : awCS "AlarmTower" 527 m_X11_throwFailure := ⟨awBig_tab (n := 1065) (by decide +kernel) (by decide +kernel), awBig_tab (n := 1066) (by decide +kernel) (by decide +kernel)⟩
theorem cv_X0_53 : awCV "AlarmTower$Alarm" 53 m_X0_isClear := ⟨awBig_tab (n := 790) (by decide +kernel) (by decide +kernel), awBig_tab (n := 783) (by decide +kernel) (by decide +kernel), awBig_tab (n := 784) (by decide +kernel) (by decide +kernel)⟩
theorem cv_X0_57 : awCV "AlarmTower$Alarm" 57 m_X0_lasts := ⟨awBig_tab (n := 863) (by decide +kernel) (by decide +kernel), awBig_tab (n := 717) (by decide +kernel) (by decide +kernel), awBig_tab (n := 718) (by decide +kernel) (by decide +kernel)⟩
theorem cs_X1_26 : awCS "AlarmTower$Board" 26 m_J9_min_7cf53 := ⟨awBig_tab (n := 1022) (by decide +kernel) (by decide +kernel), awBig_tab (n := 168) (by decide +kernel) (by decide +kernel)⟩
theorem cs_X1_32 : awCS "AlarmTower$Board" 32 m_J7_fill_d0a16 := ⟨awBig_tab (n := 1023) (by decide +kernel) (by decide +kernel), awBig_tab (n := 1024) (by decide +kernel) (by decide +kernel)⟩
theorem cv_X2_49 : awCV "AlarmTower$Group" 49 m_X0_lasts := ⟨awBig_tab (n := 781) (by decide +kernel) (by decide +kernel), awBig_tab (n := 717) (by decide +kernel) (by decide +kernel), awBig_tab (n := 718) (by decide +kernel) (by decide +kernel)⟩
theorem cv_X2_55 : awCV "AlarmTower$Group" 55 m_X0_isClear := ⟨awBig_tab (n := 782) (by decide +kernel) (by decide +kernel), awBig_tab (n := 783) (by decide +kernel) (by decide +kernel), awBig_tab (n := 784) (by decide +kernel) (by decide +kernel)⟩
theorem cv_X2_58 : awCV "AlarmTower$Group" 58 m_X0_isFresh := ⟨awBig_tab (n := 786) (by decide +kernel) (by decide +kernel), awBig_tab (n := 787) (by decide +kernel) (by decide +kernel), awBig_tab (n := 788) (by decide +kernel) (by decide +kernel)⟩
theorem cv_X3_52 : awCV "AlarmTower$Letter" 52 m_X3_isToAll := ⟨awBig_tab (n := 760) (by decide +kernel) (by decide +kernel), awBig_tab (n := 762) (by decide +kernel) (by decide +kernel), awBig_sel (n := 22) (by decide +kernel) (by decide +kernel)⟩
theorem cv_X3_56 : awCV "AlarmTower$Letter" 56 m_X3_isAnswered := ⟨awBig_tab (n := 756) (by decide +kernel) (by decide +kernel), awBig_tab (n := 757) (by decide +kernel) (by decide +kernel), awBig_tab (n := 758) (by decide +kernel) (by decide +kernel)⟩
theorem ci_X4_17 : awCI "AlarmTower$Roster" 17 m_Jx4a65c_init_da8c8 := ⟨awBig_tab (n := 69) (by decide +kernel) (by decide +kernel), awBig_tab (n := 39) (by decide +kernel) (by decide +kernel)⟩
theorem cv_X4_32 : awCV "AlarmTower$Roster" 32 m_Jx4a65c_size_8abf5 := ⟨awBig_tab (n := 470) (by decide +kernel) (by decide +kernel), awBig_tab (n := 232) (by decide +kernel) (by decide +kernel), awBig_tab (n := 233) (by decide +kernel) (by decide +kernel)⟩
theorem cv_X4_36 : awCV "AlarmTower$Roster" 36 m_Jx4a65c_add_9ea2d := ⟨awBig_tab (n := 471) (by decide +kernel) (by decide +kernel), awBig_tab (n := 113) (by decide +kernel) (by decide +kernel), awBig_tab (n := 114) (by decide +kernel) (by decide +kernel)⟩
theorem cv_X4_40 : awCV "AlarmTower$Roster" 40 m_X4_stand := ⟨awBig_tab (n := 872) (by decide +kernel) (by decide +kernel), awBig_tab (n := 874) (by decide +kernel) (by decide +kernel), awBig_sel (n := 27) (by decide +kernel) (by decide +kernel)⟩
theorem cv_X4_44 : awCV "AlarmTower$Roster" 44 m_X4_findSteps := ⟨awBig_tab (n := 887) (by decide +kernel) (by decide +kernel), awBig_tab (n := 889) (by decide +kernel) (by decide +kernel), awBig_sel (n := 29) (by decide +kernel) (by decide +kernel)⟩
theorem cv_X4_47 : awCV "AlarmTower$Roster" 47 m_Jx4a65c_get_915e3 := ⟨awBig_tab (n := 876) (by decide +kernel) (by decide +kernel), awBig_tab (n := 370) (by decide +kernel) (by decide +kernel), awBig_tab (n := 371) (by decide +kernel) (by decide +kernel)⟩
theorem cv_X4_53 : awCV "AlarmTower$Roster" 53 m_X9_covers := ⟨awBig_tab (n := 878) (by decide +kernel) (by decide +kernel), awBig_tab (n := 879) (by decide +kernel) (by decide +kernel), awBig_tab (n := 880) (by decide +kernel) (by decide +kernel)⟩
theorem cv_X4_63 : awCV "AlarmTower$Roster" 63 m_X4_exchange := ⟨awBig_tab (n := 882) (by decide +kernel) (by decide +kernel), awBig_tab (n := 884) (by decide +kernel) (by decide +kernel), awBig_sel (n := 28) (by decide +kernel) (by decide +kernel)⟩
theorem cv_X4_67 : awCV "AlarmTower$Roster" 67 m_X4_hasHand := ⟨awBig_tab (n := 886) (by decide +kernel) (by decide +kernel), awBig_tab (n := 403) (by decide +kernel) (by decide +kernel), awBig_tab (n := 404) (by decide +kernel) (by decide +kernel)⟩
theorem cs_X4_70 : awCS "AlarmTower$Roster" 70 m_J7_fill_53178 := ⟨awBig_tab (n := 891) (by decide +kernel) (by decide +kernel), awBig_tab (n := 892) (by decide +kernel) (by decide +kernel)⟩
theorem cv_X4_78 : awCV "AlarmTower$Roster" 78 m_X6_covers := ⟨awBig_tab (n := 895) (by decide +kernel) (by decide +kernel), awBig_tab (n := 896) (by decide +kernel) (by decide +kernel), awBig_tab (n := 897) (by decide +kernel) (by decide +kernel)⟩
theorem cv_X4_79 : awCV "AlarmTower$Roster" 79 m_X4_wakeAt := ⟨awBig_tab (n := 902) (by decide +kernel) (by decide +kernel), awBig_tab (n := 904) (by decide +kernel) (by decide +kernel), awBig_sel (n := 30) (by decide +kernel) (by decide +kernel)⟩
theorem cs_X4_89 : awCS "AlarmTower$Roster" 89 m_J9_min_7cf53 := ⟨awBig_tab (n := 906) (by decide +kernel) (by decide +kernel), awBig_tab (n := 168) (by decide +kernel) (by decide +kernel)⟩
theorem cv_X5_61 : awCV "AlarmTower$Rule" 61 m_X8_isSilentIn := ⟨awBig_tab (n := 562) (by decide +kernel) (by decide +kernel), awBig_tab (n := 563) (by decide +kernel) (by decide +kernel), awBig_tab (n := 564) (by decide +kernel) (by decide +kernel)⟩
theorem cv_X5_69 : awCV "AlarmTower$Rule" 69 m_X8_hasAt := ⟨awBig_tab (n := 568) (by decide +kernel) (by decide +kernel), awBig_tab (n := 512) (by decide +kernel) (by decide +kernel), awBig_tab (n := 513) (by decide +kernel) (by decide +kernel)⟩
theorem cv_X5_73 : awCV "AlarmTower$Rule" 73 m_X8_at := ⟨awBig_tab (n := 569) (by decide +kernel) (by decide +kernel), awBig_tab (n := 570) (by decide +kernel) (by decide +kernel), awBig_tab (n := 571) (by decide +kernel) (by decide +kernel)⟩
theorem cv_X5_80 : awCV "AlarmTower$Rule" 80 m_X5_isPartAbove := ⟨awBig_tab (n := 573) (by decide +kernel) (by decide +kernel), awBig_tab (n := 575) (by decide +kernel) (by decide +kernel), awBig_sel (n := 11) (by decide +kernel) (by decide +kernel)⟩
theorem cv_X5_84 : awCV "AlarmTower$Rule" 84 m_X5_sortBefore := ⟨awBig_tab (n := 577) (by decide +kernel) (by decide +kernel), awBig_tab (n := 579) (by decide +kernel) (by decide +kernel), awBig_sel (n := 12) (by decide +kernel) (by decide +kernel)⟩
theorem cv_X5_88 : awCV "AlarmTower$Rule" 88 m_X5_isOdd := ⟨awBig_tab (n := 585) (by decide +kernel) (by decide +kernel), awBig_tab (n := 587) (by decide +kernel) (by decide +kernel), awBig_sel (n := 14) (by decide +kernel) (by decide +kernel)⟩
theorem cs_X5_92 : awCS "AlarmTower$Rule" 92 m_J9_abs_067f4 := ⟨awBig_tab (n := 589) (by decide +kernel) (by decide +kernel), awBig_tab (n := 590) (by decide +kernel) (by decide +kernel)⟩
theorem cs_X5_98 : awCS "AlarmTower$Rule" 98 m_J9_max_f86c9 := ⟨awBig_tab (n := 592) (by decide +kernel) (by decide +kernel), awBig_tab (n := 593) (by decide +kernel) (by decide +kernel)⟩
theorem cv_X5_102 : awCV "AlarmTower$Rule" 102 m_X5_insert := ⟨awBig_tab (n := 581) (by decide +kernel) (by decide +kernel), awBig_tab (n := 583) (by decide +kernel) (by decide +kernel), awBig_sel (n := 13) (by decide +kernel) (by decide +kernel)⟩
theorem cs_X6_24 : awCS "AlarmTower$Shift" 24 m_J9_floorMod_7cf53 := ⟨awBig_tab (n := 899) (by decide +kernel) (by decide +kernel), awBig_tab (n := 900) (by decide +kernel) (by decide +kernel)⟩
theorem cv_X8_26 : awCV "AlarmTower$Source" 26 m_X8_hasAt := ⟨awBig_tab (n := 566) (by decide +kernel) (by decide +kernel), awBig_tab (n := 512) (by decide +kernel) (by decide +kernel), awBig_tab (n := 513) (by decide +kernel) (by decide +kernel)⟩
theorem cv_L_7 : awCV "AlarmTowerLaw" 7 m_X11_element := ⟨awBig_tab (n := 1139) (by decide +kernel) (by decide +kernel), awBig_tab (n := 1140) (by decide +kernel) (by decide +kernel), awBig_tab (n := 1141) (by decide +kernel) (by decide +kernel)⟩
theorem ci_L_17 : awCI "AlarmTowerLaw" 17 m_X11_init := ⟨awBig_tab (n := 30) (by decide +kernel) (by decide +kernel), awBig_tab (n := 31) (by decide +kernel) (by decide +kernel)⟩
theorem ci_L_20 : awCI "AlarmTowerLaw" 20 m_X12_init := ⟨awBig_tab (n := 1166) (by decide +kernel) (by decide +kernel), awBig_tab (n := 1167) (by decide +kernel) (by decide +kernel)⟩
theorem cv_L_21 : awCV "AlarmTowerLaw" 21 m_X11_source := ⟨awBig_tab (n := 224) (by decide +kernel) (by decide +kernel), awBig_tab (n := 225) (by decide +kernel) (by decide +kernel), awBig_tab (n := 226) (by decide +kernel) (by decide +kernel)⟩
theorem cv_L_25 : awCV "AlarmTowerLaw" 25 m_X12_source := ⟨awBig_tab (n := 1428) (by decide +kernel) (by decide +kernel), awBig_tab (n := 1429) (by decide +kernel) (by decide +kernel), awBig_tab (n := 1430) (by decide +kernel) (by decide +kernel)⟩
theorem cv_L_28 : awCV "AlarmTowerLaw" 28 m_X11_rule := ⟨awBig_tab (n := 260) (by decide +kernel) (by decide +kernel), awBig_tab (n := 261) (by decide +kernel) (by decide +kernel), awBig_tab (n := 262) (by decide +kernel) (by decide +kernel)⟩
theorem cv_L_32 : awCV "AlarmTowerLaw" 32 m_X12_rule := ⟨awBig_tab (n := 1436) (by decide +kernel) (by decide +kernel), awBig_tab (n := 1437) (by decide +kernel) (by decide +kernel), awBig_tab (n := 1438) (by decide +kernel) (by decide +kernel)⟩
theorem cv_L_33 : awCV "AlarmTowerLaw" 33 m_X11_hold := ⟨awBig_tab (n := 361) (by decide +kernel) (by decide +kernel), awBig_tab (n := 362) (by decide +kernel) (by decide +kernel), awBig_tab (n := 363) (by decide +kernel) (by decide +kernel)⟩
theorem cv_L_37 : awCV "AlarmTowerLaw" 37 m_X12_hold := ⟨awBig_tab (n := 1450) (by decide +kernel) (by decide +kernel), awBig_tab (n := 1451) (by decide +kernel) (by decide +kernel), awBig_tab (n := 1452) (by decide +kernel) (by decide +kernel)⟩
theorem cv_L_38 : awCV "AlarmTowerLaw" 38 m_X11_silence := ⟨awBig_tab (n := 395) (by decide +kernel) (by decide +kernel), awBig_tab (n := 396) (by decide +kernel) (by decide +kernel), awBig_tab (n := 397) (by decide +kernel) (by decide +kernel)⟩
theorem cv_L_42 : awCV "AlarmTowerLaw" 42 m_X12_silence := ⟨awBig_tab (n := 1459) (by decide +kernel) (by decide +kernel), awBig_tab (n := 1460) (by decide +kernel) (by decide +kernel), awBig_tab (n := 1461) (by decide +kernel) (by decide +kernel)⟩
theorem cv_L_43 : awCV "AlarmTowerLaw" 43 m_X11_mask := ⟨awBig_tab (n := 425) (by decide +kernel) (by decide +kernel), awBig_tab (n := 426) (by decide +kernel) (by decide +kernel), awBig_tab (n := 427) (by decide +kernel) (by decide +kernel)⟩
theorem cv_L_46 : awCV "AlarmTowerLaw" 46 m_X12_mask := ⟨awBig_tab (n := 1468) (by decide +kernel) (by decide +kernel), awBig_tab (n := 1469) (by decide +kernel) (by decide +kernel), awBig_tab (n := 1470) (by decide +kernel) (by decide +kernel)⟩
theorem cv_L_47 : awCV "AlarmTowerLaw" 47 m_X11_waits := ⟨awBig_tab (n := 429) (by decide +kernel) (by decide +kernel), awBig_tab (n := 430) (by decide +kernel) (by decide +kernel), awBig_tab (n := 431) (by decide +kernel) (by decide +kernel)⟩
theorem cv_L_51 : awCV "AlarmTowerLaw" 51 m_X12_waits := ⟨awBig_tab (n := 1473) (by decide +kernel) (by decide +kernel), awBig_tab (n := 1474) (by decide +kernel) (by decide +kernel), awBig_tab (n := 1475) (by decide +kernel) (by decide +kernel)⟩
theorem cv_L_52 : awCV "AlarmTowerLaw" 52 m_X11_hand := ⟨awBig_tab (n := 433) (by decide +kernel) (by decide +kernel), awBig_tab (n := 434) (by decide +kernel) (by decide +kernel), awBig_tab (n := 435) (by decide +kernel) (by decide +kernel)⟩
theorem cv_L_56 : awCV "AlarmTowerLaw" 56 m_X12_hand := ⟨awBig_tab (n := 1478) (by decide +kernel) (by decide +kernel), awBig_tab (n := 1479) (by decide +kernel) (by decide +kernel), awBig_tab (n := 1480) (by decide +kernel) (by decide +kernel)⟩
theorem cv_L_57 : awCV "AlarmTowerLaw" 57 m_X11_shift := ⟨awBig_tab (n := 441) (by decide +kernel) (by decide +kernel), awBig_tab (n := 442) (by decide +kernel) (by decide +kernel), awBig_tab (n := 443) (by decide +kernel) (by decide +kernel)⟩
theorem cv_L_60 : awCV "AlarmTowerLaw" 60 m_X12_shift := ⟨awBig_tab (n := 1482) (by decide +kernel) (by decide +kernel), awBig_tab (n := 1483) (by decide +kernel) (by decide +kernel), awBig_tab (n := 1484) (by decide +kernel) (by decide +kernel)⟩
theorem cv_L_61 : awCV "AlarmTowerLaw" 61 m_X11_swap := ⟨awBig_tab (n := 472) (by decide +kernel) (by decide +kernel), awBig_tab (n := 473) (by decide +kernel) (by decide +kernel), awBig_tab (n := 474) (by decide +kernel) (by decide +kernel)⟩
theorem cv_L_64 : awCV "AlarmTowerLaw" 64 m_X12_swap := ⟨awBig_tab (n := 1488) (by decide +kernel) (by decide +kernel), awBig_tab (n := 1489) (by decide +kernel) (by decide +kernel), awBig_tab (n := 1490) (by decide +kernel) (by decide +kernel)⟩
theorem cv_L_67 : awCV "AlarmTowerLaw" 67 m_X11_value := ⟨awBig_tab (n := 501) (by decide +kernel) (by decide +kernel), awBig_tab (n := 502) (by decide +kernel) (by decide +kernel), awBig_tab (n := 503) (by decide +kernel) (by decide +kernel)⟩
theorem cv_L_71 : awCV "AlarmTowerLaw" 71 m_X12_value := ⟨awBig_tab (n := 1492) (by decide +kernel) (by decide +kernel), awBig_tab (n := 1493) (by decide +kernel) (by decide +kernel), awBig_tab (n := 1494) (by decide +kernel) (by decide +kernel)⟩
theorem cv_L_72 : awCV "AlarmTowerLaw" 72 m_X11_tear := ⟨awBig_tab (n := 522) (by decide +kernel) (by decide +kernel), awBig_tab (n := 523) (by decide +kernel) (by decide +kernel), awBig_tab (n := 524) (by decide +kernel) (by decide +kernel)⟩
theorem cv_L_75 : awCV "AlarmTowerLaw" 75 m_X12_tear := ⟨awBig_tab (n := 1502) (by decide +kernel) (by decide +kernel), awBig_tab (n := 1503) (by decide +kernel) (by decide +kernel), awBig_tab (n := 1504) (by decide +kernel) (by decide +kernel)⟩
theorem cv_L_76 : awCV "AlarmTowerLaw" 76 m_X11_tick := ⟨awBig_tab (n := 530) (by decide +kernel) (by decide +kernel), awBig_tab (n := 531) (by decide +kernel) (by decide +kernel), awBig_tab (n := 532) (by decide +kernel) (by decide +kernel)⟩
theorem cv_L_79 : awCV "AlarmTowerLaw" 79 m_X12_tick := ⟨awBig_tab (n := 1506) (by decide +kernel) (by decide +kernel), awBig_tab (n := 1507) (by decide +kernel) (by decide +kernel), awBig_tab (n := 1508) (by decide +kernel) (by decide +kernel)⟩
theorem cv_L_80 : awCV "AlarmTowerLaw" 80 m_X11_truth := ⟨awBig_tab (n := 907) (by decide +kernel) (by decide +kernel), awBig_tab (n := 908) (by decide +kernel) (by decide +kernel), awBig_tab (n := 909) (by decide +kernel) (by decide +kernel)⟩
theorem cv_L_84 : awCV "AlarmTowerLaw" 84 m_X12_truth := ⟨awBig_tab (n := 1594) (by decide +kernel) (by decide +kernel), awBig_tab (n := 1595) (by decide +kernel) (by decide +kernel), awBig_tab (n := 1596) (by decide +kernel) (by decide +kernel)⟩
theorem cv_L_85 : awCV "AlarmTowerLaw" 85 m_X11_counts := ⟨awBig_tab (n := 911) (by decide +kernel) (by decide +kernel), awBig_tab (n := 912) (by decide +kernel) (by decide +kernel), awBig_tab (n := 913) (by decide +kernel) (by decide +kernel)⟩
theorem cv_L_88 : awCV "AlarmTowerLaw" 88 m_X12_counts := ⟨awBig_tab (n := 1598) (by decide +kernel) (by decide +kernel), awBig_tab (n := 1599) (by decide +kernel) (by decide +kernel), awBig_tab (n := 1600) (by decide +kernel) (by decide +kernel)⟩
theorem cv_L_89 : awCV "AlarmTowerLaw" 89 m_X11_alarm := ⟨awBig_tab (n := 915) (by decide +kernel) (by decide +kernel), awBig_tab (n := 916) (by decide +kernel) (by decide +kernel), awBig_tab (n := 917) (by decide +kernel) (by decide +kernel)⟩
theorem cv_L_92 : awCV "AlarmTowerLaw" 92 m_X12_alarm := ⟨awBig_tab (n := 1602) (by decide +kernel) (by decide +kernel), awBig_tab (n := 1603) (by decide +kernel) (by decide +kernel), awBig_tab (n := 1604) (by decide +kernel) (by decide +kernel)⟩
theorem cv_L_93 : awCV "AlarmTowerLaw" 93 m_X11_letter := ⟨awBig_tab (n := 923) (by decide +kernel) (by decide +kernel), awBig_tab (n := 924) (by decide +kernel) (by decide +kernel), awBig_tab (n := 925) (by decide +kernel) (by decide +kernel)⟩
theorem cv_L_96 : awCV "AlarmTowerLaw" 96 m_X12_letter := ⟨awBig_tab (n := 1606) (by decide +kernel) (by decide +kernel), awBig_tab (n := 1607) (by decide +kernel) (by decide +kernel), awBig_tab (n := 1608) (by decide +kernel) (by decide +kernel)⟩
theorem cv_L_97 : awCV "AlarmTowerLaw" 97 m_X11_holds := ⟨awBig_tab (n := 939) (by decide +kernel) (by decide +kernel), awBig_tab (n := 940) (by decide +kernel) (by decide +kernel), awBig_tab (n := 941) (by decide +kernel) (by decide +kernel)⟩
theorem cv_L_100 : awCV "AlarmTowerLaw" 100 m_X12_holds := ⟨awBig_tab (n := 1614) (by decide +kernel) (by decide +kernel), awBig_tab (n := 1615) (by decide +kernel) (by decide +kernel), awBig_tab (n := 1616) (by decide +kernel) (by decide +kernel)⟩
theorem cv_L_101 : awCV "AlarmTowerLaw" 101 m_X11_why := ⟨awBig_tab (n := 943) (by decide +kernel) (by decide +kernel), awBig_tab (n := 944) (by decide +kernel) (by decide +kernel), awBig_tab (n := 945) (by decide +kernel) (by decide +kernel)⟩
theorem cv_L_104 : awCV "AlarmTowerLaw" 104 m_X12_why := ⟨awBig_tab (n := 1618) (by decide +kernel) (by decide +kernel), awBig_tab (n := 1619) (by decide +kernel) (by decide +kernel), awBig_tab (n := 1620) (by decide +kernel) (by decide +kernel)⟩
theorem cv_L_105 : awCV "AlarmTowerLaw" 105 m_X11_whyNot := ⟨awBig_tab (n := 947) (by decide +kernel) (by decide +kernel), awBig_tab (n := 948) (by decide +kernel) (by decide +kernel), awBig_tab (n := 949) (by decide +kernel) (by decide +kernel)⟩
theorem cv_L_108 : awCV "AlarmTowerLaw" 108 m_X12_whyNot := ⟨awBig_tab (n := 1622) (by decide +kernel) (by decide +kernel), awBig_tab (n := 1623) (by decide +kernel) (by decide +kernel), awBig_tab (n := 1624) (by decide +kernel) (by decide +kernel)⟩
theorem cv_L_109 : awCV "AlarmTowerLaw" 109 m_X11_awake := ⟨awBig_tab (n := 952) (by decide +kernel) (by decide +kernel), awBig_tab (n := 953) (by decide +kernel) (by decide +kernel), awBig_tab (n := 954) (by decide +kernel) (by decide +kernel)⟩
theorem cv_L_112 : awCV "AlarmTowerLaw" 112 m_X12_awake := ⟨awBig_tab (n := 1626) (by decide +kernel) (by decide +kernel), awBig_tab (n := 1627) (by decide +kernel) (by decide +kernel), awBig_tab (n := 1628) (by decide +kernel) (by decide +kernel)⟩
theorem cv_L_113 : awCV "AlarmTowerLaw" 113 m_X11_answer := ⟨awBig_tab (n := 956) (by decide +kernel) (by decide +kernel), awBig_tab (n := 957) (by decide +kernel) (by decide +kernel), awBig_tab (n := 958) (by decide +kernel) (by decide +kernel)⟩
theorem cv_L_116 : awCV "AlarmTowerLaw" 116 m_X12_answer := ⟨awBig_tab (n := 1630) (by decide +kernel) (by decide +kernel), awBig_tab (n := 1631) (by decide +kernel) (by decide +kernel), awBig_tab (n := 1632) (by decide +kernel) (by decide +kernel)⟩
theorem cv_L_117 : awCV "AlarmTowerLaw" 117 m_X11_noise := ⟨awBig_tab (n := 965) (by decide +kernel) (by decide +kernel), awBig_tab (n := 966) (by decide +kernel) (by decide +kernel), awBig_tab (n := 967) (by decide +kernel) (by decide +kernel)⟩
theorem cv_L_120 : awCV "AlarmTowerLaw" 120 m_X12_noise := ⟨awBig_tab (n := 1638) (by decide +kernel) (by decide +kernel), awBig_tab (n := 1639) (by decide +kernel) (by decide +kernel), awBig_tab (n := 1640) (by decide +kernel) (by decide +kernel)⟩
theorem cv_L_121 : awCV "AlarmTowerLaw" 121 m_X11_flap := ⟨awBig_tab (n := 969) (by decide +kernel) (by decide +kernel), awBig_tab (n := 970) (by decide +kernel) (by decide +kernel), awBig_tab (n := 971) (by decide +kernel) (by decide +kernel)⟩
theorem cv_L_124 : awCV "AlarmTowerLaw" 124 m_X12_flap := ⟨awBig_tab (n := 1642) (by decide +kernel) (by decide +kernel), awBig_tab (n := 1643) (by decide +kernel) (by decide +kernel), awBig_tab (n := 1644) (by decide +kernel) (by decide +kernel)⟩
theorem cv_L_125 : awCV "AlarmTowerLaw" 125 m_X11_least := ⟨awBig_tab (n := 974) (by decide +kernel) (by decide +kernel), awBig_tab (n := 975) (by decide +kernel) (by decide +kernel), awBig_tab (n := 976) (by decide +kernel) (by decide +kernel)⟩
theorem cv_L_128 : awCV "AlarmTowerLaw" 128 m_X12_least := ⟨awBig_tab (n := 1647) (by decide +kernel) (by decide +kernel), awBig_tab (n := 1648) (by decide +kernel) (by decide +kernel), awBig_tab (n := 1649) (by decide +kernel) (by decide +kernel)⟩
theorem cv_L_129 : awCV "AlarmTowerLaw" 129 m_X11_count := ⟨awBig_tab (n := 982) (by decide +kernel) (by decide +kernel), awBig_tab (n := 983) (by decide +kernel) (by decide +kernel), awBig_tab (n := 984) (by decide +kernel) (by decide +kernel)⟩
theorem cv_L_132 : awCV "AlarmTowerLaw" 132 m_X12_count := ⟨awBig_tab (n := 1651) (by decide +kernel) (by decide +kernel), awBig_tab (n := 1652) (by decide +kernel) (by decide +kernel), awBig_tab (n := 1653) (by decide +kernel) (by decide +kernel)⟩
theorem cv_L_133 : awCV "AlarmTowerLaw" 133 m_X11_keep := ⟨awBig_tab (n := 994) (by decide +kernel) (by decide +kernel), awBig_tab (n := 995) (by decide +kernel) (by decide +kernel), awBig_tab (n := 996) (by decide +kernel) (by decide +kernel)⟩
theorem cv_L_136 : awCV "AlarmTowerLaw" 136 m_X12_keep := ⟨awBig_tab (n := 1655) (by decide +kernel) (by decide +kernel), awBig_tab (n := 1656) (by decide +kernel) (by decide +kernel), awBig_tab (n := 1657) (by decide +kernel) (by decide +kernel)⟩
theorem cv_L_137 : awCV "AlarmTowerLaw" 137 m_X11_make := ⟨awBig_tab (n := 1031) (by decide +kernel) (by decide +kernel), awBig_tab (n := 1032) (by decide +kernel) (by decide +kernel), awBig_tab (n := 1033) (by decide +kernel) (by decide +kernel)⟩
theorem cv_L_140 : awCV "AlarmTowerLaw" 140 m_X12_make := ⟨awBig_tab (n := 1663) (by decide +kernel) (by decide +kernel), awBig_tab (n := 1664) (by decide +kernel) (by decide +kernel), awBig_tab (n := 1665) (by decide +kernel) (by decide +kernel)⟩
theorem cv_L_146 : awCV "AlarmTowerLaw" 146 m_X12_element := ⟨awBig_tab (n := 1668) (by decide +kernel) (by decide +kernel), awBig_tab (n := 1669) (by decide +kernel) (by decide +kernel), awBig_tab (n := 1670) (by decide +kernel) (by decide +kernel)⟩
theorem cv_L_147 : awCV "AlarmTowerLaw" 147 m_X12_thrown := ⟨awBig_tab (n := 1424) (by decide +kernel) (by decide +kernel), awBig_tab (n := 1425) (by decide +kernel) (by decide +kernel), awBig_tab (n := 1426) (by decide +kernel) (by decide +kernel)⟩
theorem cv_L_150 : awCV "AlarmTowerLaw" 150 m_X11_copy := ⟨awBig_tab (n := 1035) (by decide +kernel) (by decide +kernel), awBig_tab (n := 1036) (by decide +kernel) (by decide +kernel), awBig_tab (n := 1037) (by decide +kernel) (by decide +kernel)⟩
theorem cv_L_153 : awCV "AlarmTowerLaw" 153 m_X12_copy := ⟨awBig_tab (n := 1672) (by decide +kernel) (by decide +kernel), awBig_tab (n := 1673) (by decide +kernel) (by decide +kernel), awBig_tab (n := 1674) (by decide +kernel) (by decide +kernel)⟩
theorem cv_L_154 : awCV "AlarmTowerLaw" 154 m_X11_weight := ⟨awBig_tab (n := 1048) (by decide +kernel) (by decide +kernel), awBig_tab (n := 1049) (by decide +kernel) (by decide +kernel), awBig_tab (n := 1050) (by decide +kernel) (by decide +kernel)⟩
theorem cv_L_157 : awCV "AlarmTowerLaw" 157 m_X12_weight := ⟨awBig_tab (n := 1680) (by decide +kernel) (by decide +kernel), awBig_tab (n := 1681) (by decide +kernel) (by decide +kernel), awBig_tab (n := 1682) (by decide +kernel) (by decide +kernel)⟩
theorem cv_L_161 : awCV "AlarmTowerLaw" 161 m_X12_toss := ⟨awBig_tab (n := 1688) (by decide +kernel) (by decide +kernel), awBig_tab (n := 1689) (by decide +kernel) (by decide +kernel), awBig_tab (n := 1690) (by decide +kernel) (by decide +kernel)⟩
theorem cs_X12_242 : awCS "AlarmTowerModel" 242 m_X12_isIn := ⟨awBig_tab (n := 1433) (by decide +kernel) (by decide +kernel), awBig_tab (n := 1434) (by decide +kernel) (by decide +kernel)⟩
theorem cv_X12_258 : awCV "AlarmTowerModel" 258 m_X12_isRule := ⟨awBig_tab (n := 1446) (by decide +kernel) (by decide +kernel), awBig_tab (n := 1448) (by decide +kernel) (by decide +kernel), awBig_sel (n := 40) (by decide +kernel) (by decide +kernel)⟩
theorem cv_X12_270 : awCV "AlarmTowerModel" 270 m_X12_holdsAll := ⟨awBig_tab (n := 1455) (by decide +kernel) (by decide +kernel), awBig_tab (n := 1457) (by decide +kernel) (by decide +kernel), awBig_sel (n := 41) (by decide +kernel) (by decide +kernel)⟩
theorem cv_X12_276 : awCV "AlarmTowerModel" 276 m_X12_isHand := ⟨awBig_tab (n := 1464) (by decide +kernel) (by decide +kernel), awBig_tab (n := 1466) (by decide +kernel) (by decide +kernel), awBig_sel (n := 42) (by decide +kernel) (by decide +kernel)⟩
theorem cv_X12_299 : awCV "AlarmTowerModel" 299 m_X12_isSource := ⟨awBig_tab (n := 1496) (by decide +kernel) (by decide +kernel), awBig_tab (n := 1498) (by decide +kernel) (by decide +kernel), awBig_sel (n := 43) (by decide +kernel) (by decide +kernel)⟩
theorem cv_X12_306 : awCV "AlarmTowerModel" 306 m_X12_has := ⟨awBig_tab (n := 1522) (by decide +kernel) (by decide +kernel), awBig_tab (n := 1524) (by decide +kernel) (by decide +kernel), awBig_sel (n := 47) (by decide +kernel) (by decide +kernel)⟩
theorem cv_X12_309 : awCV "AlarmTowerModel" 309 m_X12_countOf := ⟨awBig_tab (n := 1518) (by decide +kernel) (by decide +kernel), awBig_tab (n := 1520) (by decide +kernel) (by decide +kernel), awBig_sel (n := 46) (by decide +kernel) (by decide +kernel)⟩
theorem cv_X12_313 : awCV "AlarmTowerModel" 313 m_X12_middle := ⟨awBig_tab (n := 1542) (by decide +kernel) (by decide +kernel), awBig_tab (n := 1544) (by decide +kernel) (by decide +kernel), awBig_sel (n := 52) (by decide +kernel) (by decide +kernel)⟩
theorem cv_X12_317 : awCV "AlarmTowerModel" 317 m_X12_truthAt := ⟨awBig_tab (n := 1526) (by decide +kernel) (by decide +kernel), awBig_tab (n := 1528) (by decide +kernel) (by decide +kernel), awBig_sel (n := 48) (by decide +kernel) (by decide +kernel)⟩
theorem cv_X12_321 : awCV "AlarmTowerModel" 321 m_X12_both := ⟨awBig_tab (n := 1530) (by decide +kernel) (by decide +kernel), awBig_tab (n := 1532) (by decide +kernel) (by decide +kernel), awBig_sel (n := 49) (by decide +kernel) (by decide +kernel)⟩
theorem cv_X12_325 : awCV "AlarmTowerModel" 325 m_X12_isPart := ⟨awBig_tab (n := 1534) (by decide +kernel) (by decide +kernel), awBig_tab (n := 1536) (by decide +kernel) (by decide +kernel), awBig_sel (n := 50) (by decide +kernel) (by decide +kernel)⟩
theorem cv_X12_329 : awCV "AlarmTowerModel" 329 m_X12_odd := ⟨awBig_tab (n := 1538) (by decide +kernel) (by decide +kernel), awBig_tab (n := 1540) (by decide +kernel) (by decide +kernel), awBig_sel (n := 51) (by decide +kernel) (by decide +kernel)⟩
theorem cv_X12_336 : awCV "AlarmTowerModel" 336 m_X12_groupOf := ⟨awBig_tab (n := 1550) (by decide +kernel) (by decide +kernel), awBig_tab (n := 1552) (by decide +kernel) (by decide +kernel), awBig_sel (n := 54) (by decide +kernel) (by decide +kernel)⟩
theorem cv_X12_339 : awCV "AlarmTowerModel" 339 m_X12_found := ⟨awBig_tab (n := 1514) (by decide +kernel) (by decide +kernel), awBig_tab (n := 1516) (by decide +kernel) (by decide +kernel), awBig_sel (n := 45) (by decide +kernel) (by decide +kernel)⟩
theorem cv_X12_342 : awCV "AlarmTowerModel" 342 m_X12_begin := ⟨awBig_tab (n := 1546) (by decide +kernel) (by decide +kernel), awBig_tab (n := 1548) (by decide +kernel) (by decide +kernel), awBig_sel (n := 53) (by decide +kernel) (by decide +kernel)⟩
theorem cv_X12_346 : awCV "AlarmTowerModel" 346 m_X12_held := ⟨awBig_tab (n := 1558) (by decide +kernel) (by decide +kernel), awBig_tab (n := 1560) (by decide +kernel) (by decide +kernel), awBig_sel (n := 56) (by decide +kernel) (by decide +kernel)⟩
theorem cv_X12_349 : awCV "AlarmTowerModel" 349 m_X12_silenced := ⟨awBig_tab (n := 1562) (by decide +kernel) (by decide +kernel), awBig_tab (n := 1564) (by decide +kernel) (by decide +kernel), awBig_sel (n := 57) (by decide +kernel) (by decide +kernel)⟩
theorem cv_X12_352 : awCV "AlarmTowerModel" 352 m_X12_place := ⟨awBig_tab (n := 1586) (by decide +kernel) (by decide +kernel), awBig_tab (n := 1588) (by decide +kernel) (by decide +kernel), awBig_sel (n := 63) (by decide +kernel) (by decide +kernel)⟩
theorem cv_X12_359 : awCV "AlarmTowerModel" 359 m_X12_stepOf := ⟨awBig_tab (n := 1590) (by decide +kernel) (by decide +kernel), awBig_tab (n := 1592) (by decide +kernel) (by decide +kernel), awBig_sel (n := 64) (by decide +kernel) (by decide +kernel)⟩
theorem cv_X12_365 : awCV "AlarmTowerModel" 365 m_X12_write := ⟨awBig_tab (n := 1578) (by decide +kernel) (by decide +kernel), awBig_tab (n := 1580) (by decide +kernel) (by decide +kernel), awBig_sel (n := 61) (by decide +kernel) (by decide +kernel)⟩
theorem cv_X12_369 : awCV "AlarmTowerModel" 369 m_X12_wake := ⟨awBig_tab (n := 1582) (by decide +kernel) (by decide +kernel), awBig_tab (n := 1584) (by decide +kernel) (by decide +kernel), awBig_sel (n := 62) (by decide +kernel) (by decide +kernel)⟩
theorem cv_X12_372 : awCV "AlarmTowerModel" 372 m_X12_judge := ⟨awBig_tab (n := 1510) (by decide +kernel) (by decide +kernel), awBig_tab (n := 1512) (by decide +kernel) (by decide +kernel), awBig_sel (n := 44) (by decide +kernel) (by decide +kernel)⟩
theorem cv_X12_375 : awCV "AlarmTowerModel" 375 m_X12_clearAll := ⟨awBig_tab (n := 1554) (by decide +kernel) (by decide +kernel), awBig_tab (n := 1556) (by decide +kernel) (by decide +kernel), awBig_sel (n := 55) (by decide +kernel) (by decide +kernel)⟩
theorem cv_X12_378 : awCV "AlarmTowerModel" 378 m_X12_goUp := ⟨awBig_tab (n := 1566) (by decide +kernel) (by decide +kernel), awBig_tab (n := 1568) (by decide +kernel) (by decide +kernel), awBig_sel (n := 58) (by decide +kernel) (by decide +kernel)⟩
theorem cv_X12_381 : awCV "AlarmTowerModel" 381 m_X12_reason := ⟨awBig_tab (n := 1570) (by decide +kernel) (by decide +kernel), awBig_tab (n := 1572) (by decide +kernel) (by decide +kernel), awBig_sel (n := 59) (by decide +kernel) (by decide +kernel)⟩
theorem cv_X12_384 : awCV "AlarmTowerModel" 384 m_X12_send := ⟨awBig_tab (n := 1574) (by decide +kernel) (by decide +kernel), awBig_tab (n := 1576) (by decide +kernel) (by decide +kernel), awBig_sel (n := 60) (by decide +kernel) (by decide +kernel)⟩
theorem cv_X12_387 : awCV "AlarmTowerModel" 387 m_X12_isLetter := ⟨awBig_tab (n := 1610) (by decide +kernel) (by decide +kernel), awBig_tab (n := 1612) (by decide +kernel) (by decide +kernel), awBig_sel (n := 65) (by decide +kernel) (by decide +kernel)⟩
theorem cv_X12_390 : awCV "AlarmTowerModel" 390 m_X12_wentTo := ⟨awBig_tab (n := 1634) (by decide +kernel) (by decide +kernel), awBig_tab (n := 1636) (by decide +kernel) (by decide +kernel), awBig_sel (n := 66) (by decide +kernel) (by decide +kernel)⟩
theorem cs_X12_395 : awCS "AlarmTowerModel" 395 m_X12_isBoard := ⟨awBig_tab (n := 1659) (by decide +kernel) (by decide +kernel), awBig_tab (n := 1660) (by decide +kernel) (by decide +kernel)⟩
theorem cv_X12_402 : awCV "AlarmTowerModel" 402 m_X12_hasPlaces := ⟨awBig_tab (n := 1676) (by decide +kernel) (by decide +kernel), awBig_tab (n := 1678) (by decide +kernel) (by decide +kernel), awBig_sel (n := 67) (by decide +kernel) (by decide +kernel)⟩
theorem cv_X12_406 : awCV "AlarmTowerModel" 406 m_X12_denied := ⟨awBig_tab (n := 1684) (by decide +kernel) (by decide +kernel), awBig_tab (n := 1686) (by decide +kernel) (by decide +kernel), awBig_sel (n := 68) (by decide +kernel) (by decide +kernel)⟩
theorem ci_J_AbstractList_1 : awCI "java/util/AbstractList" 1 m_Jxa1e45_init_da8c8 := ⟨awBig_tab (n := 44) (by decide +kernel) (by decide +kernel), awBig_tab (n := 45) (by decide +kernel) (by decide +kernel)⟩
theorem ci_J_1 : awCI "java/util/ArrayList" 1 m_Jxc12de_init_da8c8 := ⟨awBig_tab (n := 41) (by decide +kernel) (by decide +kernel), awBig_tab (n := 42) (by decide +kernel) (by decide +kernel)⟩
theorem cs_J_66 : awCS "java/util/ArrayList" 66 m_J7_copyOf_1904c := ⟨awBig_tab (n := 138) (by decide +kernel) (by decide +kernel), awBig_tab (n := 139) (by decide +kernel) (by decide +kernel)⟩
theorem cv_J_69 : awCV "java/util/ArrayList" 69 m_Jx4a65c_grow_92f84 := ⟨awBig_tab (n := 124) (by decide +kernel) (by decide +kernel), awBig_tab (n := 126) (by decide +kernel) (by decide +kernel), awBig_sel (n := 2) (by decide +kernel) (by decide +kernel)⟩
theorem cs_J_73 : awCS "java/util/ArrayList" 73 m_J8_newLength_cabcc := ⟨awBig_tab (n := 128) (by decide +kernel) (by decide +kernel), awBig_tab (n := 129) (by decide +kernel) (by decide +kernel)⟩
theorem cs_J_79 : awCS "java/util/ArrayList" 79 m_J9_max_7cf53 := ⟨awBig_tab (n := 173) (by decide +kernel) (by decide +kernel), awBig_tab (n := 132) (by decide +kernel) (by decide +kernel)⟩
theorem cs_J_118 : awCS "java/util/ArrayList" 118 m_J15_checkIndex_7cf53 := ⟨awBig_tab (n := 373) (by decide +kernel) (by decide +kernel), awBig_tab (n := 374) (by decide +kernel) (by decide +kernel)⟩
theorem cv_J_123 : awCV "java/util/ArrayList" 123 m_Jx4a65c_elementData_915e3 := ⟨awBig_tab (n := 379) (by decide +kernel) (by decide +kernel), awBig_tab (n := 380) (by decide +kernel) (by decide +kernel), awBig_tab (n := 381) (by decide +kernel) (by decide +kernel)⟩
theorem cv_J_129 : awCV "java/util/ArrayList" 129 m_Jx4a65c_grow_d5877 := ⟨awBig_tab (n := 120) (by decide +kernel) (by decide +kernel), awBig_tab (n := 122) (by decide +kernel) (by decide +kernel), awBig_sel (n := 1) (by decide +kernel) (by decide +kernel)⟩
theorem cv_J_131 : awCV "java/util/ArrayList" 131 m_Jx4a65c_add_72be8 := ⟨awBig_tab (n := 116) (by decide +kernel) (by decide +kernel), awBig_tab (n := 118) (by decide +kernel) (by decide +kernel), awBig_sel (n := 0) (by decide +kernel) (by decide +kernel)⟩
theorem cs_J_Arrays_300 : awCS "java/util/Arrays" 300 m_J7_copyOf_6403c := ⟨awBig_tab (n := 161) (by decide +kernel) (by decide +kernel), awBig_tab (n := 162) (by decide +kernel) (by decide +kernel)⟩
theorem cs_J_Arrays_304 : awCS "java/util/Arrays" 304 m_J9_min_7cf53 := ⟨awBig_tab (n := 167) (by decide +kernel) (by decide +kernel), awBig_tab (n := 168) (by decide +kernel) (by decide +kernel)⟩
theorem cs_J_Objects_105 : awCS "java/util/Objects" 105 m_J3_checkIndex_8e157 := ⟨awBig_tab (n := 376) (by decide +kernel) (by decide +kernel), awBig_tab (n := 377) (by decide +kernel) (by decide +kernel)⟩
theorem cs_J_ArraysSupport_194 : awCS "jdk/internal/util/ArraysSupport" 194 m_J9_max_7cf53 := ⟨awBig_tab (n := 131) (by decide +kernel) (by decide +kernel), awBig_tab (n := 132) (by decide +kernel) (by decide +kernel)⟩
theorem cs_J_ArraysSupport_201 : awCS "jdk/internal/util/ArraysSupport" 201 m_J8_hugeLength_7cf53 := ⟨awBig_tab (n := 135) (by decide +kernel) (by decide +kernel), awBig_tab (n := 136) (by decide +kernel) (by decide +kernel)⟩
theorem cn_X11_36 : Cond.instanceMethod (awM_y m_X4_init) ∈ awBig := awBig_tab (n := 65) (by decide +kernel) (by decide +kernel)
theorem cn_X11_69 : Cond.instanceMethod (awM_y m_X1_init) ∈ awBig := awBig_tab (n := 91) (by decide +kernel) (by decide +kernel)
theorem cn_X5_57 : Cond.instanceMethod (awM_y m_X10_init) ∈ awBig := awBig_tab (n := 281) (by decide +kernel) (by decide +kernel)
theorem cn_X5_65 : Cond.static (awM_y m_X11_bit) ∈ awBig := awBig_tab (n := 520) (by decide +kernel) (by decide +kernel)
theorem kl_X11_7 : Cond.classLink "AlarmTower" 7 "java/util/ArrayList" ∈ awBig := awBig_tab (n := 36) (by decide +kernel) (by decide +kernel)
theorem nw_X11_7 : awCls "AlarmTower" 7 0 := ⟨by decide, awBig_tab (n := 36) (by decide +kernel) (by decide +kernel), awBig_tab (n := 37) (by decide +kernel) (by decide +kernel), awBig_tab (n := 4) (by decide +kernel) (by decide +kernel)⟩
theorem kl_X11_34 : Cond.classLink "AlarmTower" 34 "AlarmTower$Roster" ∈ awBig := awBig_tab (n := 62) (by decide +kernel) (by decide +kernel)
theorem nw_X11_34 : awCls "AlarmTower" 34 5 := ⟨by decide, awBig_tab (n := 62) (by decide +kernel) (by decide +kernel), awBig_tab (n := 63) (by decide +kernel) (by decide +kernel), awBig_tab (n := 5) (by decide +kernel) (by decide +kernel)⟩
theorem kl_X11_67 : Cond.classLink "AlarmTower" 67 "AlarmTower$Board" ∈ awBig := awBig_tab (n := 88) (by decide +kernel) (by decide +kernel)
theorem nw_X11_67 : awCls "AlarmTower" 67 2 := ⟨by decide, awBig_tab (n := 88) (by decide +kernel) (by decide +kernel), awBig_tab (n := 89) (by decide +kernel) (by decide +kernel), awBig_tab (n := 6) (by decide +kernel) (by decide +kernel)⟩
theorem kl_X11_82 : Cond.classLink "AlarmTower" 82 "AlarmTower$Source" ∈ awBig := awBig_tab (n := 235) (by decide +kernel) (by decide +kernel)
theorem nw_X11_82 : awCls "AlarmTower" 82 9 := ⟨by decide, awBig_tab (n := 235) (by decide +kernel) (by decide +kernel), awBig_tab (n := 236) (by decide +kernel) (by decide +kernel), awBig_tab (n := 12) (by decide +kernel) (by decide +kernel)⟩
theorem kl_X11_95 : Cond.classLink "AlarmTower" 95 "AlarmTower$Rule" ∈ awBig := awBig_tab (n := 271) (by decide +kernel) (by decide +kernel)
theorem nw_X11_95 : awCls "AlarmTower" 95 6 := ⟨by decide, awBig_tab (n := 271) (by decide +kernel) (by decide +kernel), awBig_tab (n := 272) (by decide +kernel) (by decide +kernel), awBig_tab (n := 13) (by decide +kernel) (by decide +kernel)⟩
theorem kl_X11_127 : Cond.classLink "AlarmTower" 127 "AlarmTower$Silence" ∈ awBig := awBig_tab (n := 406) (by decide +kernel) (by decide +kernel)
theorem nw_X11_127 : awCls "AlarmTower" 127 8 := ⟨by decide, awBig_tab (n := 406) (by decide +kernel) (by decide +kernel), awBig_tab (n := 407) (by decide +kernel) (by decide +kernel), awBig_tab (n := 17) (by decide +kernel) (by decide +kernel)⟩
theorem kl_X11_135 : Cond.classLink "AlarmTower" 135 "AlarmTower$Shift" ∈ awBig := awBig_tab (n := 445) (by decide +kernel) (by decide +kernel)
theorem nw_X11_135 : awCls "AlarmTower" 135 7 := ⟨by decide, awBig_tab (n := 445) (by decide +kernel) (by decide +kernel), awBig_tab (n := 446) (by decide +kernel) (by decide +kernel), awBig_tab (n := 18) (by decide +kernel) (by decide +kernel)⟩
theorem kl_X11_142 : Cond.classLink "AlarmTower" 142 "AlarmTower$Swap" ∈ awBig := awBig_tab (n := 476) (by decide +kernel) (by decide +kernel)
theorem nw_X11_142 : awCls "AlarmTower" 142 10 := ⟨by decide, awBig_tab (n := 476) (by decide +kernel) (by decide +kernel), awBig_tab (n := 477) (by decide +kernel) (by decide +kernel), awBig_tab (n := 19) (by decide +kernel) (by decide +kernel)⟩
theorem kl_X11_239 : Cond.classLink "AlarmTower" 239 "AlarmTower$Alarm" ∈ awBig := awBig_tab (n := 607) (by decide +kernel) (by decide +kernel)
theorem nw_X11_239 : awCls "AlarmTower" 239 1 := ⟨by decide, awBig_tab (n := 607) (by decide +kernel) (by decide +kernel), awBig_tab (n := 608) (by decide +kernel) (by decide +kernel), awBig_tab (n := 20) (by decide +kernel) (by decide +kernel)⟩
theorem kl_X11_263 : Cond.classLink "AlarmTower" 263 "AlarmTower$Group" ∈ awBig := awBig_tab (n := 613) (by decide +kernel) (by decide +kernel)
theorem nw_X11_263 : awCls "AlarmTower" 263 3 := ⟨by decide, awBig_tab (n := 613) (by decide +kernel) (by decide +kernel), awBig_tab (n := 618) (by decide +kernel) (by decide +kernel), awBig_tab (n := 21) (by decide +kernel) (by decide +kernel)⟩
theorem kl_X11_312 : Cond.classLink "AlarmTower" 312 "AlarmTower$Letter" ∈ awBig := awBig_tab (n := 751) (by decide +kernel) (by decide +kernel)
theorem nw_X11_312 : awCls "AlarmTower" 312 4 := ⟨by decide, awBig_tab (n := 751) (by decide +kernel) (by decide +kernel), awBig_tab (n := 763) (by decide +kernel) (by decide +kernel), awBig_tab (n := 22) (by decide +kernel) (by decide +kernel)⟩
theorem kl_X11_490 : Cond.classLink "AlarmTower" 490 "java/lang/IllegalArgumentException" ∈ awBig := awBig_tab (n := 1143) (by decide +kernel) (by decide +kernel)
theorem kl_X11_501 : Cond.classLink "AlarmTower" 501 "java/lang/IllegalStateException" ∈ awBig := awBig_tab (n := 1064) (by decide +kernel) (by decide +kernel)
theorem kl_X4_15 : Cond.classLink "AlarmTower$Roster" 15 "java/util/ArrayList" ∈ awBig := awBig_tab (n := 68) (by decide +kernel) (by decide +kernel)
theorem nw_X4_15 : awCls "AlarmTower$Roster" 15 0 := ⟨by decide, awBig_tab (n := 68) (by decide +kernel) (by decide +kernel), awBig_tab (n := 37) (by decide +kernel) (by decide +kernel), awBig_tab (n := 4) (by decide +kernel) (by decide +kernel)⟩
theorem kl_X4_51 : Cond.classLink "AlarmTower$Roster" 51 "AlarmTower$Swap" ∈ awBig := awBig_tab (n := 877) (by decide +kernel) (by decide +kernel)
theorem nw_X4_51 : awCls "AlarmTower$Roster" 51 10 := ⟨by decide, awBig_tab (n := 877) (by decide +kernel) (by decide +kernel), awBig_tab (n := 477) (by decide +kernel) (by decide +kernel), awBig_tab (n := 19) (by decide +kernel) (by decide +kernel)⟩
theorem kl_X4_76 : Cond.classLink "AlarmTower$Roster" 76 "AlarmTower$Shift" ∈ awBig := awBig_tab (n := 894) (by decide +kernel) (by decide +kernel)
theorem nw_X4_76 : awCls "AlarmTower$Roster" 76 7 := ⟨by decide, awBig_tab (n := 894) (by decide +kernel) (by decide +kernel), awBig_tab (n := 446) (by decide +kernel) (by decide +kernel), awBig_tab (n := 18) (by decide +kernel) (by decide +kernel)⟩
theorem kl_X5_9 : Cond.classLink "AlarmTower$Rule" 9 "AlarmTower$Watch" ∈ awBig := awBig_tab (n := 277) (by decide +kernel) (by decide +kernel)
theorem nw_X5_9 : awCls "AlarmTower$Rule" 9 11 := ⟨by decide, awBig_tab (n := 277) (by decide +kernel) (by decide +kernel), awBig_tab (n := 279) (by decide +kernel) (by decide +kernel), awBig_tab (n := 14) (by decide +kernel) (by decide +kernel)⟩
theorem kl_L_8 : Cond.classLink "AlarmTowerLaw" 8 "AlarmTower" ∈ awBig := awBig_tab (n := 28) (by decide +kernel) (by decide +kernel)
theorem nw_L_8 : awCls "AlarmTowerLaw" 8 12 := ⟨by decide, awBig_tab (n := 28) (by decide +kernel) (by decide +kernel), awBig_tab (n := 29) (by decide +kernel) (by decide +kernel), awBig_tab (n := 1) (by decide +kernel) (by decide +kernel)⟩
theorem kl_L_13 : Cond.classLink "AlarmTowerLaw" 13 "java/lang/IllegalArgumentException" ∈ awBig := awBig_tab (n := 1137) (by decide +kernel) (by decide +kernel)
theorem kl_L_15 : Cond.classLink "AlarmTowerLaw" 15 "java/lang/IllegalStateException" ∈ awBig := awBig_tab (n := 1138) (by decide +kernel) (by decide +kernel)
theorem kl_L_18 : Cond.classLink "AlarmTowerLaw" 18 "AlarmTowerModel" ∈ awBig := awBig_tab (n := 1164) (by decide +kernel) (by decide +kernel)
theorem nw_L_18 : awCls "AlarmTowerLaw" 18 13 := ⟨by decide, awBig_tab (n := 1164) (by decide +kernel) (by decide +kernel), awBig_tab (n := 1165) (by decide +kernel) (by decide +kernel), awBig_tab (n := 11) (by decide +kernel) (by decide +kernel)⟩
theorem kl_J_7 : Cond.classLink "java/util/ArrayList" 7 "java/lang/Object" ∈ awBig := awBig_tab (n := 174) (by decide +kernel) (by decide +kernel)
theorem kl_J_Arrays_2 : Cond.classLink "java/util/Arrays" 2 "java/lang/Object" ∈ awBig := awBig_tab (n := 166) (by decide +kernel) (by decide +kernel)
theorem kl_J_Arrays_110 : Cond.classLink "java/util/Arrays" 110 "[Ljava/lang/Object;" ∈ awBig := awBig_tab (n := 164) (by decide +kernel) (by decide +kernel)
theorem kc_X11_153 : Cond.constantDouble "AlarmTower" 153 (14009883241494872064) ∈ awBig := awBig_tab (n := 509) (by decide +kernel) (by decide +kernel)
theorem kc_X11_155 : Cond.constantDouble "AlarmTower" 155 (4786511204640096256) ∈ awBig := awBig_tab (n := 510) (by decide +kernel) (by decide +kernel)
theorem kc_L_26 : Cond.constantLong "AlarmTowerLaw" 26 (4294967295) ∈ awBig := awBig_tab (n := 1692) (by decide +kernel) (by decide +kernel)
theorem kc_L_65 : Cond.constantDouble "AlarmTowerLaw" 65 (4593671619917905920) ∈ awBig := awBig_tab (n := 1693) (by decide +kernel) (by decide +kernel)
theorem kc_X12_48 : Cond.constant "AlarmTowerModel" 48 (102656) ∈ awBig := awBig_tab (n := 1170) (by decide +kernel) (by decide +kernel)
theorem kc_X12_240 : Cond.constantLong "AlarmTowerModel" 240 (9) ∈ awBig := awBig_tab (n := 1432) (by decide +kernel) (by decide +kernel)
theorem kc_X12_246 : Cond.constantLong "AlarmTowerModel" 246 (6) ∈ awBig := awBig_tab (n := 1440) (by decide +kernel) (by decide +kernel)
theorem kc_X12_248 : Cond.constantLong "AlarmTowerModel" 248 (20) ∈ awBig := awBig_tab (n := 1441) (by decide +kernel) (by decide +kernel)
theorem kc_X12_250 : Cond.constantLong "AlarmTowerModel" 250 (10) ∈ awBig := awBig_tab (n := 1442) (by decide +kernel) (by decide +kernel)
theorem kc_X12_252 : Cond.constantLong "AlarmTowerModel" 252 (5) ∈ awBig := awBig_tab (n := 1443) (by decide +kernel) (by decide +kernel)
theorem kc_X12_254 : Cond.constantLong "AlarmTowerModel" 254 (-1) ∈ awBig := awBig_tab (n := 1444) (by decide +kernel) (by decide +kernel)
theorem kc_X12_256 : Cond.constantLong "AlarmTowerModel" 256 (100) ∈ awBig := awBig_tab (n := 1445) (by decide +kernel) (by decide +kernel)
theorem kc_X12_268 : Cond.constantLong "AlarmTowerModel" 268 (2) ∈ awBig := awBig_tab (n := 1454) (by decide +kernel) (by decide +kernel)
theorem kc_X12_274 : Cond.constantLong "AlarmTowerModel" 274 (1000) ∈ awBig := awBig_tab (n := 1463) (by decide +kernel) (by decide +kernel)
theorem kc_X12_282 : Cond.constantLong "AlarmTowerModel" 282 (7) ∈ awBig := awBig_tab (n := 1472) (by decide +kernel) (by decide +kernel)
theorem kc_X12_287 : Cond.constantLong "AlarmTowerModel" 287 (50) ∈ awBig := awBig_tab (n := 1477) (by decide +kernel) (by decide +kernel)
theorem kc_X12_289 : Cond.constantLong "AlarmTowerModel" 289 (47) ∈ awBig := awBig_tab (n := 1486) (by decide +kernel) (by decide +kernel)
theorem kc_X12_291 : Cond.constantLong "AlarmTowerModel" 291 (48) ∈ awBig := awBig_tab (n := 1487) (by decide +kernel) (by decide +kernel)
theorem kc_X12_302 : Cond.constantDouble "AlarmTowerModel" 302 (14009883241494872064) ∈ awBig := awBig_tab (n := 1500) (by decide +kernel) (by decide +kernel)
theorem kc_X12_304 : Cond.constantDouble "AlarmTowerModel" 304 (4786511204640096256) ∈ awBig := awBig_tab (n := 1501) (by decide +kernel) (by decide +kernel)
theorem kc_X12_393 : Cond.constantLong "AlarmTowerModel" 393 (2000) ∈ awBig := awBig_tab (n := 1646) (by decide +kernel) (by decide +kernel)
theorem kc_X12_398 : Cond.constantLong "AlarmTowerModel" 398 (4) ∈ awBig := awBig_tab (n := 1662) (by decide +kernel) (by decide +kernel)
theorem kc_X12_400 : Cond.constantLong "AlarmTowerModel" 400 (3) ∈ awBig := awBig_tab (n := 1667) (by decide +kernel) (by decide +kernel)
theorem kc_J_ArraysSupport_200 : Cond.constant "jdk/internal/util/ArraysSupport" 200 (2147483639) ∈ awBig := awBig_tab (n := 134) (by decide +kernel) (by decide +kernel)
theorem ka_int : Cond.arrayClass .int ∈ awBig := awBig_tab (n := 87) (by decide +kernel) (by decide +kernel)
theorem ka_long : Cond.arrayClass .long ∈ awBig := awBig_tab (n := 111) (by decide +kernel) (by decide +kernel)
theorem ka_boolean : Cond.arrayClass .boolean ∈ awBig := awBig_tab (n := 259) (by decide +kernel) (by decide +kernel)
theorem ka_byte : Cond.arrayClass .byte ∈ awBig := awBig_tab (n := 1133) (by decide +kernel) (by decide +kernel)
theorem ko_1 : Cond.instanceMethod objectInit ∈ awBig := awBig_tab (n := 34) (by decide +kernel) (by decide +kernel)
theorem ko_2 : Cond.code objectInit ⟨#[0xb1]⟩ 1 none ∈ awBig := awBig_tab (n := 35) (by decide +kernel) (by decide +kernel)
theorem ki_X11_1 : Cond.methodLink "AlarmTower" 1 objectInit ∈ awBig := awBig_tab (n := 33) (by decide +kernel) (by decide +kernel)
theorem ki_X0_1 : Cond.methodLink "AlarmTower$Alarm" 1 objectInit ∈ awBig := awBig_tab (n := 653) (by decide +kernel) (by decide +kernel)
theorem ki_X1_3 : Cond.methodLink "AlarmTower$Board" 3 objectInit ∈ awBig := awBig_tab (n := 93) (by decide +kernel) (by decide +kernel)
theorem ki_X2_3 : Cond.methodLink "AlarmTower$Group" 3 objectInit ∈ awBig := awBig_tab (n := 622) (by decide +kernel) (by decide +kernel)
theorem ki_X3_3 : Cond.methodLink "AlarmTower$Letter" 3 objectInit ∈ awBig := awBig_tab (n := 806) (by decide +kernel) (by decide +kernel)
theorem ki_X4_3 : Cond.methodLink "AlarmTower$Roster" 3 objectInit ∈ awBig := awBig_tab (n := 67) (by decide +kernel) (by decide +kernel)
theorem ki_X5_3 : Cond.methodLink "AlarmTower$Rule" 3 objectInit ∈ awBig := awBig_tab (n := 276) (by decide +kernel) (by decide +kernel)
theorem ki_X6_3 : Cond.methodLink "AlarmTower$Shift" 3 objectInit ∈ awBig := awBig_tab (n := 450) (by decide +kernel) (by decide +kernel)
theorem ki_X7_1 : Cond.methodLink "AlarmTower$Silence" 1 objectInit ∈ awBig := awBig_tab (n := 411) (by decide +kernel) (by decide +kernel)
theorem ki_X8_3 : Cond.methodLink "AlarmTower$Source" 3 objectInit ∈ awBig := awBig_tab (n := 240) (by decide +kernel) (by decide +kernel)
theorem ki_X9_1 : Cond.methodLink "AlarmTower$Swap" 1 objectInit ∈ awBig := awBig_tab (n := 481) (by decide +kernel) (by decide +kernel)
theorem ki_X10_3 : Cond.methodLink "AlarmTower$Watch" 3 objectInit ∈ awBig := awBig_tab (n := 283) (by decide +kernel) (by decide +kernel)
theorem ki_X12_1 : Cond.methodLink "AlarmTowerModel" 1 objectInit ∈ awBig := awBig_tab (n := 1169) (by decide +kernel) (by decide +kernel)
theorem ki_J_Throwable_1 : Cond.methodLink "java/lang/Throwable" 1 objectInit ∈ awBig := awBig_tab (n := 1092) (by decide +kernel) (by decide +kernel)
theorem ki_J_AbstractCollection_1 : Cond.methodLink "java/util/AbstractCollection" 1 objectInit ∈ awBig := awBig_tab (n := 47) (by decide +kernel) (by decide +kernel)
theorem kp_X11_515 : awAcp "AlarmTower" 515 := ⟨awBig_tab (n := 1047) (by decide +kernel) (by decide +kernel), awBig_tab (n := 172) (by decide +kernel) (by decide +kernel), awBig_tab (n := 171) (by decide +kernel) (by decide +kernel), awBig_tab (n := 10) (by decide +kernel) (by decide +kernel)⟩
theorem kp_J_Arrays_150 : awAcp "java/util/Arrays" 150 := ⟨awBig_tab (n := 170) (by decide +kernel) (by decide +kernel), awBig_tab (n := 172) (by decide +kernel) (by decide +kernel), awBig_tab (n := 171) (by decide +kernel) (by decide +kernel), awBig_tab (n := 10) (by decide +kernel) (by decide +kernel)⟩
theorem kg_1 : Cond.methodLink "java/util/Arrays" 86 ⟨"java/lang/Object", "getClass", "()Ljava/lang/Class;"⟩ ∈ awBig := awBig_tab (n := 141) (by decide +kernel) (by decide +kernel)
theorem kg_2 : Cond.selects "[Ljava/lang/Object;" ⟨"java/lang/Object", "getClass", "()Ljava/lang/Class;"⟩ ⟨"java/lang/Object", "getClass", "()Ljava/lang/Class;"⟩ ∈ awBig := awBig_tab (n := 1714) (by decide +kernel) (by decide +kernel)
theorem kg_3 : Cond.instanceMethod ⟨"java/lang/Object", "getClass", "()Ljava/lang/Class;"⟩ ∈ awBig := awBig_tab (n := 142) (by decide +kernel) (by decide +kernel)
theorem kg_4 : Cond.native ⟨"java/lang/Object", "getClass", "()Ljava/lang/Class;"⟩ ∈ awBig := awBig_tab (n := 160) (by decide +kernel) (by decide +kernel)
theorem ke_1 : Cond.fieldLink "java/util/ArrayList" 39 "java/util/ArrayList" "DEFAULTCAPACITY_EMPTY_ELEMENTDATA" "[Ljava/lang/Object;" ∈ awBig := awBig_tab (n := 48) (by decide +kernel) (by decide +kernel)
