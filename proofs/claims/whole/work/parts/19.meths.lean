-- the methods, and what the tables say of their calls
def awCV (own : String) (idx : Nat) (Mc : awM) : Prop := Cond.methodLink own idx (awM_y Mc) ∈ awBig ∧ Cond.instanceMethod (awM_y Mc) ∈ awBig ∧ Cond.selects (awM_y Mc).cls (awM_y Mc) (awM_y Mc) ∈ awBig
def awCS (own : String) (idx : Nat) (Mc : awM) : Prop := Cond.methodLink own idx (awM_y Mc) ∈ awBig ∧ Cond.static (awM_y Mc) ∈ awBig
def awCI (own : String) (idx : Nat) (Mc : awM) : Prop := Cond.methodLink own idx (awM_y Mc) ∈ awBig ∧ Cond.instanceMethod (awM_y Mc) ∈ awBig
def m_X0_init : awM := (⟨"AlarmTower$Alarm", "<init>", "(ILAlarmTower$Rule;LAlarmTower$Source;LAlarmTower$Group;I)V"⟩, prog_2_method_1_code, 6, none, 1, 20, true)
theorem cb_X0_init : awCallB m_X0_init 5 := ⟨awBig_tab (n := 20) (by decide +kernel) (by decide +kernel), awBig_tab (n := 653) (by decide +kernel) (by decide +kernel), by decide, by decide, by decide +kernel⟩
def m_X0_lasts : awM := (⟨"AlarmTower$Alarm", "lasts", "()Z"⟩, prog_2_method_2_code, 1, (some .boolean), 0, 0, false)
theorem cb_X0_lasts : awCallB m_X0_lasts 0 := ⟨awBig_tab (n := 20) (by decide +kernel) (by decide +kernel), awBig_tab (n := 720) (by decide +kernel) (by decide +kernel), by decide, by decide, by decide +kernel⟩
def m_X0_isClear : awM := (⟨"AlarmTower$Alarm", "isClear", "()Z"⟩, prog_2_method_3_code, 1, (some .boolean), 0, 0, false)
theorem cb_X0_isClear : awCallB m_X0_isClear 0 := ⟨awBig_tab (n := 20) (by decide +kernel) (by decide +kernel), awBig_tab (n := 786) (by decide +kernel) (by decide +kernel), by decide, by decide, by decide +kernel⟩
def m_X0_isFresh : awM := (⟨"AlarmTower$Alarm", "isFresh", "()Z"⟩, prog_2_method_4_code, 1, (some .boolean), 1, 20, false)
theorem cb_X0_isFresh : awCallB m_X0_isFresh 0 := ⟨awBig_tab (n := 20) (by decide +kernel) (by decide +kernel), awBig_tab (n := 790) (by decide +kernel) (by decide +kernel), by decide, by decide, by decide +kernel⟩
def m_X0_mark : awM := (⟨"AlarmTower$Alarm", "mark", "(ZZI)V"⟩, prog_2_method_5_code, 4, none, 0, 0, false)
theorem cb_X0_mark : awCallB m_X0_mark 3 := ⟨awBig_tab (n := 20) (by decide +kernel) (by decide +kernel), awBig_tab (n := 747) (by decide +kernel) (by decide +kernel), by decide, by decide, by decide +kernel⟩
def m_X0_end : awM := (⟨"AlarmTower$Alarm", "end", "(I)V"⟩, prog_2_method_6_code, 2, none, 0, 0, false)
theorem cb_X0_end : awCallB m_X0_end 1 := ⟨awBig_tab (n := 20) (by decide +kernel) (by decide +kernel), awBig_tab (n := 712) (by decide +kernel) (by decide +kernel), by decide, by decide, by decide +kernel⟩
def m_X0_tellLasting : awM := (⟨"AlarmTower$Alarm", "tellLasting", "()V"⟩, prog_2_method_7_code, 1, none, 0, 0, false)
theorem cb_X0_tellLasting : awCallB m_X0_tellLasting 0 := ⟨awBig_tab (n := 20) (by decide +kernel) (by decide +kernel), awBig_tab (n := 859) (by decide +kernel) (by decide +kernel), by decide, by decide, by decide +kernel⟩
def m_X0_wantsEndTold : awM := (⟨"AlarmTower$Alarm", "wantsEndTold", "()Z"⟩, prog_2_method_8_code, 1, (some .boolean), 1, 20, false)
theorem cb_X0_wantsEndTold : awCallB m_X0_wantsEndTold 0 := ⟨awBig_tab (n := 20) (by decide +kernel) (by decide +kernel), awBig_tab (n := 863) (by decide +kernel) (by decide +kernel), by decide, by decide, by decide +kernel⟩
def m_X0_tellEnd : awM := (⟨"AlarmTower$Alarm", "tellEnd", "()V"⟩, prog_2_method_9_code, 1, none, 0, 0, false)
theorem cb_X0_tellEnd : awCallB m_X0_tellEnd 0 := ⟨awBig_tab (n := 20) (by decide +kernel) (by decide +kernel), awBig_tab (n := 868) (by decide +kernel) (by decide +kernel), by decide, by decide, by decide +kernel⟩
def m_X1_init : awM := (⟨"AlarmTower$Board", "<init>", "()V"⟩, prog_3_method_1_code, 1, none, 1, 20, true)
theorem cb_X1_init : awCallB m_X1_init 0 := ⟨awBig_tab (n := 6) (by decide +kernel) (by decide +kernel), awBig_tab (n := 93) (by decide +kernel) (by decide +kernel), by decide, by decide, by decide +kernel⟩
def m_X1_keepBare : awM := (⟨"AlarmTower$Board", "keepBare", "(I)V"⟩, prog_3_method_2_code, 2, none, 0, 0, false)
theorem cb_X1_keepBare : awCallB m_X1_keepBare 1 := ⟨awBig_tab (n := 6) (by decide +kernel) (by decide +kernel), awBig_tab (n := 1006) (by decide +kernel) (by decide +kernel), by decide, by decide, by decide +kernel⟩
def m_X1_keepAlarm : awM := (⟨"AlarmTower$Board", "keepAlarm", "(LAlarmTower$Alarm;)V"⟩, prog_3_method_3_code, 2, none, 0, 0, false)
theorem cb_X1_keepAlarm : awCallB m_X1_keepAlarm 1 := ⟨awBig_tab (n := 6) (by decide +kernel) (by decide +kernel), awBig_tab (n := 1013) (by decide +kernel) (by decide +kernel), by decide, by decide, by decide +kernel⟩
def m_X1_keepRow : awM := (⟨"AlarmTower$Board", "keepRow", "(II)V"⟩, prog_3_method_4_code, 3, none, 1, 24, false)
theorem cb_X1_keepRow : awCallB m_X1_keepRow 2 := ⟨awBig_tab (n := 6) (by decide +kernel) (by decide +kernel), awBig_tab (n := 1022) (by decide +kernel) (by decide +kernel), by decide, by decide, by decide +kernel⟩
def m_X1_isRow : awM := (⟨"AlarmTower$Board", "isRow", "()Z"⟩, prog_3_method_5_code, 1, (some .boolean), 0, 0, false)
theorem cb_X1_isRow : awCallB m_X1_isRow 0 := ⟨awBig_tab (n := 6) (by decide +kernel) (by decide +kernel), awBig_tab (n := 1043) (by decide +kernel) (by decide +kernel), by decide, by decide, by decide +kernel⟩
def m_X1_put : awM := (⟨"AlarmTower$Board", "put", "(IJ)V"⟩, prog_3_method_6_code, 4, none, 0, 0, false)
theorem cb_X1_put : awCallB m_X1_put 2 := ⟨awBig_tab (n := 6) (by decide +kernel) (by decide +kernel), awBig_tab (n := 1031) (by decide +kernel) (by decide +kernel), by decide, by decide, by decide +kernel⟩
def m_X1_get : awM := (⟨"AlarmTower$Board", "get", "(I)J"⟩, prog_3_method_7_code, 2, (some .long), 0, 0, false)
theorem cb_X1_get : awCallB m_X1_get 1 := ⟨awBig_tab (n := 6) (by decide +kernel) (by decide +kernel), awBig_tab (n := 1164) (by decide +kernel) (by decide +kernel), by decide, by decide, by decide +kernel⟩
def m_X1_hasSpan : awM := (⟨"AlarmTower$Board", "hasSpan", "(II)Z"⟩, prog_3_method_8_code, 3, (some .boolean), 0, 0, false)
theorem cb_X1_hasSpan : awCallB m_X1_hasSpan 2 := ⟨awBig_tab (n := 6) (by decide +kernel) (by decide +kernel), awBig_tab (n := 1047) (by decide +kernel) (by decide +kernel), by decide, by decide, by decide +kernel⟩
def m_X2_init : awM := (⟨"AlarmTower$Group", "<init>", "(LAlarmTower$Rule;LAlarmTower$Source;)V"⟩, prog_4_method_1_code, 3, none, 1, 20, true)
theorem cb_X2_init : awCallB m_X2_init 2 := ⟨awBig_tab (n := 21) (by decide +kernel) (by decide +kernel), awBig_tab (n := 622) (by decide +kernel) (by decide +kernel), by decide, by decide, by decide +kernel⟩
def m_X2_isAlike : awM := (⟨"AlarmTower$Group", "isAlike", "(LAlarmTower$Rule;LAlarmTower$Source;I)Z"⟩, prog_4_method_2_code, 4, (some .boolean), 0, 0, false)
theorem cb_X2_isAlike : awCallB m_X2_isAlike 3 := ⟨awBig_tab (n := 21) (by decide +kernel) (by decide +kernel), awBig_tab (n := 618) (by decide +kernel) (by decide +kernel), by decide, by decide, by decide +kernel⟩
def m_X2_hasFresh : awM := (⟨"AlarmTower$Group", "hasFresh", "()Z"⟩, prog_4_method_3_code, 1, (some .boolean), 0, 0, false)
theorem cb_X2_hasFresh : awCallB m_X2_hasFresh 0 := ⟨awBig_tab (n := 21) (by decide +kernel) (by decide +kernel), awBig_tab (n := 799) (by decide +kernel) (by decide +kernel), by decide, by decide, by decide +kernel⟩
def m_X2_forget : awM := (⟨"AlarmTower$Group", "forget", "()V"⟩, prog_4_method_4_code, 1, none, 0, 0, false)
theorem cb_X2_forget : awCallB m_X2_forget 0 := ⟨awBig_tab (n := 21) (by decide +kernel) (by decide +kernel), awBig_tab (n := 777) (by decide +kernel) (by decide +kernel), by decide, by decide, by decide +kernel⟩
def m_X2_see : awM := (⟨"AlarmTower$Group", "see", "(LAlarmTower$Alarm;)V"⟩, prog_4_method_5_code, 2, none, 2, 40, false)
theorem cb_X2_see : awCallB m_X2_see 1 := ⟨awBig_tab (n := 21) (by decide +kernel) (by decide +kernel), awBig_tab (n := 781) (by decide +kernel) (by decide +kernel), by decide, by decide, by decide +kernel⟩
def m_X3_init : awM := (⟨"AlarmTower$Letter", "<init>", "(LAlarmTower$Group;II)V"⟩, prog_5_method_1_code, 4, none, 1, 20, true)
theorem cb_X3_init : awCallB m_X3_init 3 := ⟨awBig_tab (n := 22) (by decide +kernel) (by decide +kernel), awBig_tab (n := 806) (by decide +kernel) (by decide +kernel), by decide, by decide, by decide +kernel⟩
def m_X3_add : awM := (⟨"AlarmTower$Letter", "add", "(LAlarmTower$Alarm;)Z"⟩, prog_5_method_2_code, 2, (some .boolean), 0, 0, false)
theorem cb_X3_add : awCallB m_X3_add 1 := ⟨awBig_tab (n := 22) (by decide +kernel) (by decide +kernel), awBig_tab (n := 855) (by decide +kernel) (by decide +kernel), by decide, by decide, by decide +kernel⟩
def m_X3_alarmAt : awM := (⟨"AlarmTower$Letter", "alarmAt", "(I)I"⟩, prog_5_method_3_code, 2, (some .int), 0, 0, false)
theorem cb_X3_alarmAt : awCallB m_X3_alarmAt 1 := ⟨awBig_tab (n := 22) (by decide +kernel) (by decide +kernel), awBig_tab (n := 935) (by decide +kernel) (by decide +kernel), by decide, by decide, by decide +kernel⟩
def m_X3_isAnswered : awM := (⟨"AlarmTower$Letter", "isAnswered", "()Z"⟩, prog_5_method_4_code, 1, (some .boolean), 0, 0, false)
theorem cb_X3_isAnswered : awCallB m_X3_isAnswered 0 := ⟨awBig_tab (n := 22) (by decide +kernel) (by decide +kernel), awBig_tab (n := 760) (by decide +kernel) (by decide +kernel), by decide, by decide, by decide +kernel⟩
def m_X3_isToAll : awM := (⟨"AlarmTower$Letter", "isToAll", "()Z"⟩, prog_5_method_5_code, 1, (some .boolean), 0, 0, false)
theorem cb_X3_isToAll : awCallB m_X3_isToAll 0 := ⟨awBig_tab (n := 22) (by decide +kernel) (by decide +kernel), awBig_tab (n := 765) (by decide +kernel) (by decide +kernel), by decide, by decide, by decide +kernel⟩
def m_X3_latestHand : awM := (⟨"AlarmTower$Letter", "latestHand", "()I"⟩, prog_5_method_6_code, 1, (some .int), 1, 20, false)
theorem cb_X3_latestHand : awCallB m_X3_latestHand 0 := ⟨awBig_tab (n := 22) (by decide +kernel) (by decide +kernel), awBig_tab (n := 939) (by decide +kernel) (by decide +kernel), by decide, by decide, by decide +kernel⟩
def m_X3_climb : awM := (⟨"AlarmTower$Letter", "climb", "(II)V"⟩, prog_5_method_7_code, 3, none, 1, 20, false)
theorem cb_X3_climb : awCallB m_X3_climb 2 := ⟨awBig_tab (n := 22) (by decide +kernel) (by decide +kernel), awBig_tab (n := 756) (by decide +kernel) (by decide +kernel), by decide, by decide, by decide +kernel⟩
def m_X3_wentTo : awM := (⟨"AlarmTower$Letter", "wentTo", "(I)Z"⟩, prog_5_method_8_code, 3, (some .boolean), 1, 20, false)
theorem cb_X3_wentTo : awCallB m_X3_wentTo 1 := ⟨awBig_tab (n := 22) (by decide +kernel) (by decide +kernel), awBig_tab (n := 964) (by decide +kernel) (by decide +kernel), by decide, by decide, by decide +kernel⟩
def m_X4_init : awM := (⟨"AlarmTower$Roster", "<init>", "()V"⟩, prog_6_method_1_code, 1, none, 4, 80, true)
theorem cb_X4_init : awCallB m_X4_init 0 := ⟨awBig_tab (n := 5) (by decide +kernel) (by decide +kernel), awBig_tab (n := 68) (by decide +kernel) (by decide +kernel), by decide, by decide, by decide +kernel⟩
def m_X4_hasHand : awM := (⟨"AlarmTower$Roster", "hasHand", "(I)Z"⟩, prog_6_method_2_code, 2, (some .boolean), 0, 0, false)
theorem cb_X4_hasHand : awCallB m_X4_hasHand 1 := ⟨awBig_tab (n := 5) (by decide +kernel) (by decide +kernel), awBig_tab (n := 406) (by decide +kernel) (by decide +kernel), by decide, by decide, by decide +kernel⟩
def m_X4_addHand : awM := (⟨"AlarmTower$Roster", "addHand", "()I"⟩, prog_6_method_3_code, 1, (some .int), 0, 0, false)
theorem cb_X4_addHand : awCallB m_X4_addHand 0 := ⟨awBig_tab (n := 5) (by decide +kernel) (by decide +kernel), awBig_tab (n := 441) (by decide +kernel) (by decide +kernel), by decide, by decide, by decide +kernel⟩
def m_X4_addShift : awM := (⟨"AlarmTower$Roster", "addShift", "(LAlarmTower$Shift;)I"⟩, prog_6_method_4_code, 2, (some .int), 7, 171, false)
theorem cb_X4_addShift : awCallB m_X4_addShift 1 := ⟨awBig_tab (n := 5) (by decide +kernel) (by decide +kernel), awBig_tab (n := 470) (by decide +kernel) (by decide +kernel), by decide, by decide, by decide +kernel⟩
def m_X4_addSwap : awM := (⟨"AlarmTower$Roster", "addSwap", "(LAlarmTower$Swap;)I"⟩, prog_6_method_5_code, 2, (some .int), 7, 171, false)
theorem cb_X4_addSwap : awCallB m_X4_addSwap 1 := ⟨awBig_tab (n := 5) (by decide +kernel) (by decide +kernel), awBig_tab (n := 501) (by decide +kernel) (by decide +kernel), by decide, by decide, by decide +kernel⟩
def m_X4_fillRow : awM := (⟨"AlarmTower$Roster", "fillRow", "(I[I)I"⟩, prog_6_method_6_code, 6, (some .int), 4, 87, false)
theorem cb_X4_fillRow : awCallB m_X4_fillRow 2 := ⟨awBig_tab (n := 5) (by decide +kernel) (by decide +kernel), awBig_tab (n := 872) (by decide +kernel) (by decide +kernel), by decide, by decide, by decide +kernel⟩
def m_X4_stand : awM := (⟨"AlarmTower$Roster", "stand", "(I)V"⟩, prog_6_method_7_code, 4, none, 3, 64, false)
theorem cb_X4_stand : awCallB m_X4_stand 1 := ⟨awBig_tab (n := 5) (by decide +kernel) (by decide +kernel), awBig_tab (n := 876) (by decide +kernel) (by decide +kernel), by decide, by decide, by decide +kernel⟩
def m_X4_exchange : awM := (⟨"AlarmTower$Roster", "exchange", "(II)V"⟩, prog_6_method_8_code, 4, none, 1, 21, false)
theorem cb_X4_exchange : awCallB m_X4_exchange 2 := ⟨awBig_tab (n := 5) (by decide +kernel) (by decide +kernel), awBig_tab (n := 886) (by decide +kernel) (by decide +kernel), by decide, by decide, by decide +kernel⟩
def m_X4_findSteps : awM := (⟨"AlarmTower$Roster", "findSteps", "(I)V"⟩, prog_6_method_9_code, 4, none, 3, 64, false)
theorem cb_X4_findSteps : awCallB m_X4_findSteps 1 := ⟨awBig_tab (n := 5) (by decide +kernel) (by decide +kernel), awBig_tab (n := 891) (by decide +kernel) (by decide +kernel), by decide, by decide, by decide +kernel⟩
def m_X4_wakeAt : awM := (⟨"AlarmTower$Roster", "wakeAt", "(LAlarmTower$Shift;)V"⟩, prog_6_method_10_code, 3, none, 1, 21, false)
theorem cb_X4_wakeAt : awCallB m_X4_wakeAt 1 := ⟨awBig_tab (n := 5) (by decide +kernel) (by decide +kernel), awBig_tab (n := 906) (by decide +kernel) (by decide +kernel), by decide, by decide, by decide +kernel⟩
def m_X5_init : awM := (⟨"AlarmTower$Rule", "<init>", "(IIJIII)V"⟩, prog_7_method_1_code, 9, none, 2, 40, true)
theorem cb_X5_init : awCallB m_X5_init 6 := ⟨awBig_tab (n := 13) (by decide +kernel) (by decide +kernel), awBig_tab (n := 276) (by decide +kernel) (by decide +kernel), by decide, by decide, by decide +kernel⟩
def m_X5_watchAt : awM := (⟨"AlarmTower$Rule", "watchAt", "(I)LAlarmTower$Watch;"⟩, prog_7_method_2_code, 2, (some (.object "AlarmTower$Watch")), 0, 0, false)
theorem cb_X5_watchAt : awCallB m_X5_watchAt 1 := ⟨awBig_tab (n := 13) (by decide +kernel) (by decide +kernel), awBig_tab (n := 546) (by decide +kernel) (by decide +kernel), by decide, by decide, by decide +kernel⟩
def m_X5_looksAt : awM := (⟨"AlarmTower$Rule", "looksAt", "(LAlarmTower$Source;)Z"⟩, prog_7_method_3_code, 2, (some .boolean), 0, 0, false)
theorem cb_X5_looksAt : awCallB m_X5_looksAt 1 := ⟨awBig_tab (n := 13) (by decide +kernel) (by decide +kernel), awBig_tab (n := 550) (by decide +kernel) (by decide +kernel), by decide, by decide, by decide +kernel⟩
def m_X5_addHolder : awM := (⟨"AlarmTower$Rule", "addHolder", "(II)V"⟩, prog_7_method_4_code, 3, none, 0, 0, false)
theorem cb_X5_addHolder : awCallB m_X5_addHolder 2 := ⟨awBig_tab (n := 13) (by decide +kernel) (by decide +kernel), awBig_tab (n := 395) (by decide +kernel) (by decide +kernel), by decide, by decide, by decide +kernel⟩
def m_X5_isHeldBy : awM := (⟨"AlarmTower$Rule", "isHeldBy", "(II)Z"⟩, prog_7_method_5_code, 3, (some .boolean), 0, 0, false)
theorem cb_X5_isHeldBy : awCallB m_X5_isHeldBy 2 := ⟨awBig_tab (n := 13) (by decide +kernel) (by decide +kernel), awBig_tab (n := 728) (by decide +kernel) (by decide +kernel), by decide, by decide, by decide +kernel⟩
def m_X5_holders : awM := (⟨"AlarmTower$Rule", "holders", "()I"⟩, prog_7_method_6_code, 3, (some .int), 0, 0, false)
theorem cb_X5_holders : awCallB m_X5_holders 0 := ⟨awBig_tab (n := 13) (by decide +kernel) (by decide +kernel), awBig_tab (n := 391) (by decide +kernel) (by decide +kernel), by decide, by decide, by decide +kernel⟩
def m_X5_truthOf : awM := (⟨"AlarmTower$Rule", "truthOf", "(LAlarmTower$Source;LAlarmTower$Watch;I)I"⟩, prog_7_method_7_code, 6, (some .int), 3, 68, false)
theorem cb_X5_truthOf : awCallB m_X5_truthOf 3 := ⟨awBig_tab (n := 13) (by decide +kernel) (by decide +kernel), awBig_tab (n := 562) (by decide +kernel) (by decide +kernel), by decide, by decide, by decide +kernel⟩
def m_X5_isPartAbove : awM := (⟨"AlarmTower$Rule", "isPartAbove", "(LAlarmTower$Source;II)Z"⟩, prog_7_method_8_code, 7, (some .boolean), 2, 42, false)
theorem cb_X5_isPartAbove : awCallB m_X5_isPartAbove 3 := ⟨awBig_tab (n := 13) (by decide +kernel) (by decide +kernel), awBig_tab (n := 577) (by decide +kernel) (by decide +kernel), by decide, by decide, by decide +kernel⟩
def m_X5_isOdd : awM := (⟨"AlarmTower$Rule", "isOdd", "(JI)Z"⟩, prog_7_method_9_code, 7, (some .boolean), 1, 23, false)
theorem cb_X5_isOdd : awCallB m_X5_isOdd 2 := ⟨awBig_tab (n := 13) (by decide +kernel) (by decide +kernel), awBig_tab (n := 589) (by decide +kernel) (by decide +kernel), by decide, by decide, by decide +kernel⟩
def m_X5_sortBefore : awM := (⟨"AlarmTower$Rule", "sortBefore", "(LAlarmTower$Source;I)I"⟩, prog_7_method_10_code, 5, (some .int), 2, 42, false)
theorem cb_X5_sortBefore : awCallB m_X5_sortBefore 2 := ⟨awBig_tab (n := 13) (by decide +kernel) (by decide +kernel), awBig_tab (n := 581) (by decide +kernel) (by decide +kernel), by decide, by decide, by decide +kernel⟩
def m_X5_insert : awM := (⟨"AlarmTower$Rule", "insert", "(JI)V"⟩, prog_7_method_11_code, 5, none, 0, 0, false)
theorem cb_X5_insert : awCallB m_X5_insert 2 := ⟨awBig_tab (n := 13) (by decide +kernel) (by decide +kernel), awBig_tab (n := 585) (by decide +kernel) (by decide +kernel), by decide, by decide, by decide +kernel⟩
def m_X5_imagine : awM := (⟨"AlarmTower$Rule", "imagine", "(LAlarmTower$Watch;)V"⟩, prog_7_method_12_code, 3, none, 0, 0, false)
theorem cb_X5_imagine : awCallB m_X5_imagine 1 := ⟨awBig_tab (n := 13) (by decide +kernel) (by decide +kernel), awBig_tab (n := 603) (by decide +kernel) (by decide +kernel), by decide, by decide, by decide +kernel⟩
def m_X5_begunAt : awM := (⟨"AlarmTower$Rule", "begunAt", "(I)I"⟩, prog_7_method_13_code, 2, (some .int), 0, 0, false)
theorem cb_X5_begunAt : awCallB m_X5_begunAt 1 := ⟨awBig_tab (n := 13) (by decide +kernel) (by decide +kernel), awBig_tab (n := 982) (by decide +kernel) (by decide +kernel), by decide, by decide, by decide +kernel⟩
def m_X6_init : awM := (⟨"AlarmTower$Shift", "<init>", "(IIII)V"⟩, prog_8_method_1_code, 5, none, 1, 20, true)
theorem cb_X6_init : awCallB m_X6_init 4 := ⟨awBig_tab (n := 18) (by decide +kernel) (by decide +kernel), awBig_tab (n := 450) (by decide +kernel) (by decide +kernel), by decide, by decide, by decide +kernel⟩
def m_X6_covers : awM := (⟨"AlarmTower$Shift", "covers", "(I)Z"⟩, prog_8_method_2_code, 2, (some .boolean), 1, 22, false)
theorem cb_X6_covers : awCallB m_X6_covers 1 := ⟨awBig_tab (n := 18) (by decide +kernel) (by decide +kernel), awBig_tab (n := 899) (by decide +kernel) (by decide +kernel), by decide, by decide, by decide +kernel⟩
def m_X7_init : awM := (⟨"AlarmTower$Silence", "<init>", "(IIII)V"⟩, prog_9_method_1_code, 5, none, 1, 20, true)
theorem cb_X7_init : awCallB m_X7_init 4 := ⟨awBig_tab (n := 17) (by decide +kernel) (by decide +kernel), awBig_tab (n := 411) (by decide +kernel) (by decide +kernel), by decide, by decide, by decide +kernel⟩
def m_X7_fits : awM := (⟨"AlarmTower$Silence", "fits", "(LAlarmTower$Alarm;I)Z"⟩, prog_9_method_2_code, 3, (some .boolean), 0, 0, false)
theorem cb_X7_fits : awCallB m_X7_fits 2 := ⟨awBig_tab (n := 17) (by decide +kernel) (by decide +kernel), awBig_tab (n := 743) (by decide +kernel) (by decide +kernel), by decide, by decide, by decide +kernel⟩
def m_X8_init : awM := (⟨"AlarmTower$Source", "<init>", "(II)V"⟩, prog_10_method_1_code, 3, none, 1, 20, true)
theorem cb_X8_init : awCallB m_X8_init 2 := ⟨awBig_tab (n := 8) (by decide +kernel) (by decide +kernel), awBig_tab (n := 177) (by decide +kernel) (by decide +kernel), by decide, by decide, by decide +kernel⟩
def m_X8_hasAt : awM := (⟨"AlarmTower$Source", "hasAt", "(I)Z"⟩, prog_10_method_2_code, 2, (some .boolean), 0, 0, false)
theorem cb_X8_hasAt : awCallB m_X8_hasAt 1 := ⟨awBig_tab (n := 8) (by decide +kernel) (by decide +kernel), awBig_tab (n := 515) (by decide +kernel) (by decide +kernel), by decide, by decide, by decide +kernel⟩
def m_X8_at : awM := (⟨"AlarmTower$Source", "at", "(I)J"⟩, prog_10_method_3_code, 2, (some .long), 1, 21, false)
theorem cb_X8_at : awCallB m_X8_at 1 := ⟨awBig_tab (n := 8) (by decide +kernel) (by decide +kernel), awBig_tab (n := 573) (by decide +kernel) (by decide +kernel), by decide, by decide, by decide +kernel⟩
def m_X8_put : awM := (⟨"AlarmTower$Source", "put", "(IJ)V"⟩, prog_10_method_4_code, 4, none, 0, 0, false)
theorem cb_X8_put : awCallB m_X8_put 2 := ⟨awBig_tab (n := 8) (by decide +kernel) (by decide +kernel), awBig_tab (n := 519) (by decide +kernel) (by decide +kernel), by decide, by decide, by decide +kernel⟩
def m_X8_drop : awM := (⟨"AlarmTower$Source", "drop", "(I)V"⟩, prog_10_method_5_code, 2, none, 0, 0, false)
theorem cb_X8_drop : awCallB m_X8_drop 1 := ⟨awBig_tab (n := 8) (by decide +kernel) (by decide +kernel), awBig_tab (n := 530) (by decide +kernel) (by decide +kernel), by decide, by decide, by decide +kernel⟩
def m_X8_isSilentIn : awM := (⟨"AlarmTower$Source", "isSilentIn", "(II)Z"⟩, prog_10_method_6_code, 4, (some .boolean), 1, 21, false)
theorem cb_X8_isSilentIn : awCallB m_X8_isSilentIn 2 := ⟨awBig_tab (n := 8) (by decide +kernel) (by decide +kernel), awBig_tab (n := 566) (by decide +kernel) (by decide +kernel), by decide, by decide, by decide +kernel⟩
def m_X9_init : awM := (⟨"AlarmTower$Swap", "<init>", "(IIII)V"⟩, prog_11_method_1_code, 5, none, 1, 20, true)
theorem cb_X9_init : awCallB m_X9_init 4 := ⟨awBig_tab (n := 19) (by decide +kernel) (by decide +kernel), awBig_tab (n := 481) (by decide +kernel) (by decide +kernel), by decide, by decide, by decide +kernel⟩
def m_X9_covers : awM := (⟨"AlarmTower$Swap", "covers", "(I)Z"⟩, prog_11_method_2_code, 2, (some .boolean), 0, 0, false)
theorem cb_X9_covers : awCallB m_X9_covers 1 := ⟨awBig_tab (n := 19) (by decide +kernel) (by decide +kernel), awBig_tab (n := 882) (by decide +kernel) (by decide +kernel), by decide, by decide, by decide +kernel⟩
def m_X10_init : awM := (⟨"AlarmTower$Watch", "<init>", "()V"⟩, prog_12_method_1_code, 1, none, 1, 20, true)
theorem cb_X10_init : awCallB m_X10_init 0 := ⟨awBig_tab (n := 14) (by decide +kernel) (by decide +kernel), awBig_tab (n := 283) (by decide +kernel) (by decide +kernel), by decide, by decide, by decide +kernel⟩
def m_X10_note : awM := (⟨"AlarmTower$Watch", "note", "(I)V"⟩, prog_12_method_2_code, 2, none, 0, 0, false)
theorem cb_X10_note : awCallB m_X10_note 1 := ⟨awBig_tab (n := 14) (by decide +kernel) (by decide +kernel), awBig_tab (n := 599) (by decide +kernel) (by decide +kernel), by decide, by decide, by decide +kernel⟩
def m_X11_init : awM := (⟨"AlarmTower", "<init>", "()V"⟩, prog_1_method_1_code, 2, none, 5, 100, true)
theorem cb_X11_init : awCallB m_X11_init 0 := ⟨awBig_tab (n := 1) (by decide +kernel) (by decide +kernel), awBig_tab (n := 32) (by decide +kernel) (by decide +kernel), by decide, by decide, by decide +kernel⟩
def m_X11_source : awM := (⟨"AlarmTower", "source", "(I)I"⟩, prog_1_method_2_code, 2, (some .int), 7, 171, false)
theorem cb_X11_source : awCallB m_X11_source 1 := ⟨awBig_tab (n := 1) (by decide +kernel) (by decide +kernel), awBig_tab (n := 165) (by decide +kernel) (by decide +kernel), by decide, by decide, by decide +kernel⟩
def m_X11_rule : awM := (⟨"AlarmTower", "rule", "(IJIII)I"⟩, prog_1_method_3_code, 8, (some .int), 7, 171, false)
theorem cb_X11_rule : awCallB m_X11_rule 5 := ⟨awBig_tab (n := 1) (by decide +kernel) (by decide +kernel), awBig_tab (n := 264) (by decide +kernel) (by decide +kernel), by decide, by decide, by decide +kernel⟩
def m_X11_isLook : awM := (⟨"AlarmTower", "isLook", "(IIJI)Z"⟩, prog_1_method_4_code, 6, (some .boolean), 1, 22, false)
theorem cb_X11_isLook : awCallB m_X11_isLook 4 := ⟨awBig_tab (n := 1) (by decide +kernel) (by decide +kernel), awBig_tab (n := 268) (by decide +kernel) (by decide +kernel), by decide, by decide, by decide +kernel⟩
def m_X11_isManner : awM := (⟨"AlarmTower", "isManner", "(I)Z"⟩, prog_1_method_5_code, 1, (some .boolean), 1, 22, false)
theorem cb_X11_isManner : awCallB m_X11_isManner 1 := ⟨awBig_tab (n := 1) (by decide +kernel) (by decide +kernel), awBig_tab (n := 271) (by decide +kernel) (by decide +kernel), by decide, by decide, by decide +kernel⟩
def m_X11_hold : awM := (⟨"AlarmTower", "hold", "(III)I"⟩, prog_1_method_6_code, 6, (some .int), 4, 89, false)
theorem cb_X11_hold : awCallB m_X11_hold 3 := ⟨awBig_tab (n := 1) (by decide +kernel) (by decide +kernel), awBig_tab (n := 365) (by decide +kernel) (by decide +kernel), by decide, by decide, by decide +kernel⟩
def m_X11_isHeldOver : awM := (⟨"AlarmTower", "isHeldOver", "(II)Z"⟩, prog_1_method_7_code, 6, (some .boolean), 3, 64, false)
theorem cb_X11_isHeldOver : awCallB m_X11_isHeldOver 2 := ⟨awBig_tab (n := 1) (by decide +kernel) (by decide +kernel), awBig_tab (n := 387) (by decide +kernel) (by decide +kernel), by decide, by decide, by decide +kernel⟩
def m_X11_silence : awM := (⟨"AlarmTower", "silence", "(IIIII)I"⟩, prog_1_method_8_code, 6, (some .int), 7, 171, false)
theorem cb_X11_silence : awCallB m_X11_silence 5 := ⟨awBig_tab (n := 1) (by decide +kernel) (by decide +kernel), awBig_tab (n := 399) (by decide +kernel) (by decide +kernel), by decide, by decide, by decide +kernel⟩
def m_X11_mask : awM := (⟨"AlarmTower", "mask", "(I)I"⟩, prog_1_method_9_code, 2, (some .int), 1, 22, false)
theorem cb_X11_mask : awCallB m_X11_mask 1 := ⟨awBig_tab (n := 1) (by decide +kernel) (by decide +kernel), awBig_tab (n := 429) (by decide +kernel) (by decide +kernel), by decide, by decide, by decide +kernel⟩
def m_X11_waits : awM := (⟨"AlarmTower", "waits", "(IIII)I"⟩, prog_1_method_10_code, 5, (some .int), 1, 22, false)
theorem cb_X11_waits : awCallB m_X11_waits 4 := ⟨awBig_tab (n := 1) (by decide +kernel) (by decide +kernel), awBig_tab (n := 433) (by decide +kernel) (by decide +kernel), by decide, by decide, by decide +kernel⟩
def m_X11_hand : awM := (⟨"AlarmTower", "hand", "()I"⟩, prog_1_method_11_code, 1, (some .int), 1, 20, false)
theorem cb_X11_hand : awCallB m_X11_hand 0 := ⟨awBig_tab (n := 1) (by decide +kernel) (by decide +kernel), awBig_tab (n := 437) (by decide +kernel) (by decide +kernel), by decide, by decide, by decide +kernel⟩
