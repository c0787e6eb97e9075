theorem dX0_init_0 : decode cX0_init 0 = .ok (.aload_n 0, 1) := by decide +kernel
theorem dX0_init_1 : decode cX0_init 1 = .ok (.invokespecial 1, 3) := by decide +kernel
theorem dX0_init_4 : decode cX0_init 4 = .ok (.aload_n 0, 1) := by decide +kernel
theorem dX0_init_5 : decode cX0_init 5 = .ok (.iconst 0, 1) := by decide +kernel
theorem dX0_init_6 : decode cX0_init 6 = .ok (.putfield 7, 3) := by decide +kernel
theorem dX0_init_9 : decode cX0_init 9 = .ok (.aload_n 0, 1) := by decide +kernel
theorem dX0_init_10 : decode cX0_init 10 = .ok (.iconst 0, 1) := by decide +kernel
theorem dX0_init_11 : decode cX0_init 11 = .ok (.putfield 13, 3) := by decide +kernel
theorem dX0_init_14 : decode cX0_init 14 = .ok (.aload_n 0, 1) := by decide +kernel
theorem dX0_init_15 : decode cX0_init 15 = .ok (.iconst 0, 1) := by decide +kernel
theorem dX0_init_16 : decode cX0_init 16 = .ok (.putfield 17, 3) := by decide +kernel
theorem dX0_init_19 : decode cX0_init 19 = .ok (.aload_n 0, 1) := by decide +kernel
theorem dX0_init_20 : decode cX0_init 20 = .ok (.iconst 0, 1) := by decide +kernel
theorem dX0_init_21 : decode cX0_init 21 = .ok (.putfield 20, 3) := by decide +kernel
theorem dX0_init_24 : decode cX0_init 24 = .ok (.aload_n 0, 1) := by decide +kernel
theorem dX0_init_25 : decode cX0_init 25 = .ok (.iconst 0, 1) := by decide +kernel
theorem dX0_init_26 : decode cX0_init 26 = .ok (.putfield 23, 3) := by decide +kernel
theorem dX0_init_29 : decode cX0_init 29 = .ok (.aload_n 0, 1) := by decide +kernel
theorem dX0_init_30 : decode cX0_init 30 = .ok (.iconst 0, 1) := by decide +kernel
theorem dX0_init_31 : decode cX0_init 31 = .ok (.putfield 26, 3) := by decide +kernel
theorem dX0_init_34 : decode cX0_init 34 = .ok (.aload_n 0, 1) := by decide +kernel
theorem dX0_init_35 : decode cX0_init 35 = .ok (.iconst 0, 1) := by decide +kernel
theorem dX0_init_36 : decode cX0_init 36 = .ok (.putfield 29, 3) := by decide +kernel
theorem dX0_init_39 : decode cX0_init 39 = .ok (.aload_n 0, 1) := by decide +kernel
theorem dX0_init_40 : decode cX0_init 40 = .ok (.iconst 0, 1) := by decide +kernel
theorem dX0_init_41 : decode cX0_init 41 = .ok (.putfield 32, 3) := by decide +kernel
theorem dX0_init_44 : decode cX0_init 44 = .ok (.aload_n 0, 1) := by decide +kernel
theorem dX0_init_45 : decode cX0_init 45 = .ok (.iload_n 1, 1) := by decide +kernel
theorem dX0_init_46 : decode cX0_init 46 = .ok (.putfield 35, 3) := by decide +kernel
theorem dX0_init_49 : decode cX0_init 49 = .ok (.aload_n 0, 1) := by decide +kernel
theorem dX0_init_50 : decode cX0_init 50 = .ok (.aload_n 2, 1) := by decide +kernel
theorem dX0_init_51 : decode cX0_init 51 = .ok (.putfield 38, 3) := by decide +kernel
theorem dX0_init_54 : decode cX0_init 54 = .ok (.aload_n 0, 1) := by decide +kernel
theorem dX0_init_55 : decode cX0_init 55 = .ok (.aload_n 3, 1) := by decide +kernel
theorem dX0_init_56 : decode cX0_init 56 = .ok (.putfield 42, 3) := by decide +kernel
theorem dX0_init_59 : decode cX0_init 59 = .ok (.aload_n 0, 1) := by decide +kernel
theorem dX0_init_60 : decode cX0_init 60 = .ok (.aload 4, 2) := by decide +kernel
theorem dX0_init_62 : decode cX0_init 62 = .ok (.putfield 46, 3) := by decide +kernel
theorem dX0_init_65 : decode cX0_init 65 = .ok (.aload_n 0, 1) := by decide +kernel
theorem dX0_init_66 : decode cX0_init 66 = .ok (.iload 5, 2) := by decide +kernel
theorem dX0_init_68 : decode cX0_init 68 = .ok (.putfield 50, 3) := by decide +kernel
theorem dX0_init_71 : decode cX0_init 71 = .ok (.return_, 1) := by decide +kernel
theorem dX0_lasts_0 : decode cX0_lasts 0 = .ok (.aload_n 0, 1) := by decide +kernel
theorem dX0_lasts_1 : decode cX0_lasts 1 = .ok (.getfield 7, 3) := by decide +kernel
theorem dX0_lasts_4 : decode cX0_lasts 4 = .ok (.ifCond .ne 7, 3) := by decide +kernel
theorem dX0_lasts_7 : decode cX0_lasts 7 = .ok (.iconst 1, 1) := by decide +kernel
theorem dX0_lasts_8 : decode cX0_lasts 8 = .ok (.goto 4, 3) := by decide +kernel
theorem dX0_lasts_11 : decode cX0_lasts 11 = .ok (.iconst 0, 1) := by decide +kernel
theorem dX0_lasts_12 : decode cX0_lasts 12 = .ok (.ireturn, 1) := by decide +kernel
theorem dX0_isClear_0 : decode cX0_isClear 0 = .ok (.aload_n 0, 1) := by decide +kernel
theorem dX0_isClear_1 : decode cX0_isClear 1 = .ok (.getfield 20, 3) := by decide +kernel
theorem dX0_isClear_4 : decode cX0_isClear 4 = .ok (.ifCond .le 7, 3) := by decide +kernel
theorem dX0_isClear_7 : decode cX0_isClear 7 = .ok (.iconst 1, 1) := by decide +kernel
theorem dX0_isClear_8 : decode cX0_isClear 8 = .ok (.goto 4, 3) := by decide +kernel
theorem dX0_isClear_11 : decode cX0_isClear 11 = .ok (.iconst 0, 1) := by decide +kernel
theorem dX0_isClear_12 : decode cX0_isClear 12 = .ok (.ireturn, 1) := by decide +kernel
theorem dX0_isFresh_0 : decode cX0_isFresh 0 = .ok (.aload_n 0, 1) := by decide +kernel
theorem dX0_isFresh_1 : decode cX0_isFresh 1 = .ok (.invokevirtual 53, 3) := by decide +kernel
theorem dX0_isFresh_4 : decode cX0_isFresh 4 = .ok (.ifCond .eq 14, 3) := by decide +kernel
theorem dX0_isFresh_7 : decode cX0_isFresh 7 = .ok (.aload_n 0, 1) := by decide +kernel
theorem dX0_isFresh_8 : decode cX0_isFresh 8 = .ok (.getfield 26, 3) := by decide +kernel
theorem dX0_isFresh_11 : decode cX0_isFresh 11 = .ok (.ifCond .ne 7, 3) := by decide +kernel
theorem dX0_isFresh_14 : decode cX0_isFresh 14 = .ok (.iconst 1, 1) := by decide +kernel
theorem dX0_isFresh_15 : decode cX0_isFresh 15 = .ok (.goto 4, 3) := by decide +kernel
theorem dX0_isFresh_18 : decode cX0_isFresh 18 = .ok (.iconst 0, 1) := by decide +kernel
theorem dX0_isFresh_19 : decode cX0_isFresh 19 = .ok (.ireturn, 1) := by decide +kernel
theorem dX0_mark_0 : decode cX0_mark 0 = .ok (.aload_n 0, 1) := by decide +kernel
theorem dX0_mark_1 : decode cX0_mark 1 = .ok (.iload_n 1, 1) := by decide +kernel
theorem dX0_mark_2 : decode cX0_mark 2 = .ok (.putfield 13, 3) := by decide +kernel
theorem dX0_mark_5 : decode cX0_mark 5 = .ok (.aload_n 0, 1) := by decide +kernel
theorem dX0_mark_6 : decode cX0_mark 6 = .ok (.iload_n 2, 1) := by decide +kernel
theorem dX0_mark_7 : decode cX0_mark 7 = .ok (.putfield 17, 3) := by decide +kernel
theorem dX0_mark_10 : decode cX0_mark 10 = .ok (.aload_n 0, 1) := by decide +kernel
theorem dX0_mark_11 : decode cX0_mark 11 = .ok (.getfield 13, 3) := by decide +kernel
theorem dX0_mark_14 : decode cX0_mark 14 = .ok (.ifCond .ne 10, 3) := by decide +kernel
theorem dX0_mark_17 : decode cX0_mark 17 = .ok (.aload_n 0, 1) := by decide +kernel
theorem dX0_mark_18 : decode cX0_mark 18 = .ok (.getfield 17, 3) := by decide +kernel
theorem dX0_mark_21 : decode cX0_mark 21 = .ok (.ifCond .eq 11, 3) := by decide +kernel
theorem dX0_mark_24 : decode cX0_mark 24 = .ok (.aload_n 0, 1) := by decide +kernel
theorem dX0_mark_25 : decode cX0_mark 25 = .ok (.iconst 0, 1) := by decide +kernel
theorem dX0_mark_26 : decode cX0_mark 26 = .ok (.putfield 20, 3) := by decide +kernel
theorem dX0_mark_29 : decode cX0_mark 29 = .ok (.goto 20, 3) := by decide +kernel
theorem dX0_mark_32 : decode cX0_mark 32 = .ok (.aload_n 0, 1) := by decide +kernel
theorem dX0_mark_33 : decode cX0_mark 33 = .ok (.getfield 20, 3) := by decide +kernel
theorem dX0_mark_36 : decode cX0_mark 36 = .ok (.ifCond .ne 13, 3) := by decide +kernel
theorem dX0_mark_39 : decode cX0_mark 39 = .ok (.aload_n 0, 1) := by decide +kernel
theorem dX0_mark_40 : decode cX0_mark 40 = .ok (.iload_n 3, 1) := by decide +kernel
theorem dX0_mark_41 : decode cX0_mark 41 = .ok (.putfield 20, 3) := by decide +kernel
theorem dX0_mark_44 : decode cX0_mark 44 = .ok (.aload_n 0, 1) := by decide +kernel
theorem dX0_mark_45 : decode cX0_mark 45 = .ok (.iconst 0, 1) := by decide +kernel
theorem dX0_mark_46 : decode cX0_mark 46 = .ok (.putfield 26, 3) := by decide +kernel
theorem dX0_mark_49 : decode cX0_mark 49 = .ok (.return_, 1) := by decide +kernel
theorem dX0_end_0 : decode cX0_end 0 = .ok (.aload_n 0, 1) := by decide +kernel
theorem dX0_end_1 : decode cX0_end 1 = .ok (.iload_n 1, 1) := by decide +kernel
theorem dX0_end_2 : decode cX0_end 2 = .ok (.putfield 7, 3) := by decide +kernel
theorem dX0_end_5 : decode cX0_end 5 = .ok (.aload_n 0, 1) := by decide +kernel
theorem dX0_end_6 : decode cX0_end 6 = .ok (.iconst 0, 1) := by decide +kernel
theorem dX0_end_7 : decode cX0_end 7 = .ok (.putfield 13, 3) := by decide +kernel
theorem dX0_end_10 : decode cX0_end 10 = .ok (.aload_n 0, 1) := by decide +kernel
theorem dX0_end_11 : decode cX0_end 11 = .ok (.iconst 0, 1) := by decide +kernel
theorem dX0_end_12 : decode cX0_end 12 = .ok (.putfield 17, 3) := by decide +kernel
theorem dX0_end_15 : decode cX0_end 15 = .ok (.aload_n 0, 1) := by decide +kernel
theorem dX0_end_16 : decode cX0_end 16 = .ok (.iconst 0, 1) := by decide +kernel
theorem dX0_end_17 : decode cX0_end 17 = .ok (.putfield 20, 3) := by decide +kernel
theorem dX0_end_20 : decode cX0_end 20 = .ok (.return_, 1) := by decide +kernel
theorem dX0_tellLasting_0 : decode cX0_tellLasting 0 = .ok (.aload_n 0, 1) := by decide +kernel
theorem dX0_tellLasting_1 : decode cX0_tellLasting 1 = .ok (.dup, 1) := by decide +kernel
theorem dX0_tellLasting_2 : decode cX0_tellLasting 2 = .ok (.getfield 23, 3) := by decide +kernel
theorem dX0_tellLasting_5 : decode cX0_tellLasting 5 = .ok (.iconst 1, 1) := by decide +kernel
theorem dX0_tellLasting_6 : decode cX0_tellLasting 6 = .ok (.iadd, 1) := by decide +kernel
theorem dX0_tellLasting_7 : decode cX0_tellLasting 7 = .ok (.putfield 23, 3) := by decide +kernel
theorem dX0_tellLasting_10 : decode cX0_tellLasting 10 = .ok (.aload_n 0, 1) := by decide +kernel
theorem dX0_tellLasting_11 : decode cX0_tellLasting 11 = .ok (.iconst 1, 1) := by decide +kernel
theorem dX0_tellLasting_12 : decode cX0_tellLasting 12 = .ok (.putfield 26, 3) := by decide +kernel
theorem dX0_tellLasting_15 : decode cX0_tellLasting 15 = .ok (.aload_n 0, 1) := by decide +kernel
theorem dX0_tellLasting_16 : decode cX0_tellLasting 16 = .ok (.iconst 1, 1) := by decide +kernel
theorem dX0_tellLasting_17 : decode cX0_tellLasting 17 = .ok (.putfield 29, 3) := by decide +kernel
theorem dX0_tellLasting_20 : decode cX0_tellLasting 20 = .ok (.return_, 1) := by decide +kernel
theorem dX0_wantsEndTold_0 : decode cX0_wantsEndTold 0 = .ok (.aload_n 0, 1) := by decide +kernel
theorem dX0_wantsEndTold_1 : decode cX0_wantsEndTold 1 = .ok (.invokevirtual 57, 3) := by decide +kernel
theorem dX0_wantsEndTold_4 : decode cX0_wantsEndTold 4 = .ok (.ifCond .ne 21, 3) := by decide +kernel
theorem dX0_wantsEndTold_7 : decode cX0_wantsEndTold 7 = .ok (.aload_n 0, 1) := by decide +kernel
theorem dX0_wantsEndTold_8 : decode cX0_wantsEndTold 8 = .ok (.getfield 29, 3) := by decide +kernel
theorem dX0_wantsEndTold_11 : decode cX0_wantsEndTold 11 = .ok (.ifCond .eq 14, 3) := by decide +kernel
theorem dX0_wantsEndTold_14 : decode cX0_wantsEndTold 14 = .ok (.aload_n 0, 1) := by decide +kernel
theorem dX0_wantsEndTold_15 : decode cX0_wantsEndTold 15 = .ok (.getfield 32, 3) := by decide +kernel
theorem dX0_wantsEndTold_18 : decode cX0_wantsEndTold 18 = .ok (.ifCond .ne 7, 3) := by decide +kernel
theorem dX0_wantsEndTold_21 : decode cX0_wantsEndTold 21 = .ok (.iconst 1, 1) := by decide +kernel
theorem dX0_wantsEndTold_22 : decode cX0_wantsEndTold 22 = .ok (.goto 4, 3) := by decide +kernel
theorem dX0_wantsEndTold_25 : decode cX0_wantsEndTold 25 = .ok (.iconst 0, 1) := by decide +kernel
theorem dX0_wantsEndTold_26 : decode cX0_wantsEndTold 26 = .ok (.ireturn, 1) := by decide +kernel
theorem dX0_tellEnd_0 : decode cX0_tellEnd 0 = .ok (.aload_n 0, 1) := by decide +kernel
theorem dX0_tellEnd_1 : decode cX0_tellEnd 1 = .ok (.dup, 1) := by decide +kernel
theorem dX0_tellEnd_2 : decode cX0_tellEnd 2 = .ok (.getfield 23, 3) := by decide +kernel
theorem dX0_tellEnd_5 : decode cX0_tellEnd 5 = .ok (.iconst 1, 1) := by decide +kernel
theorem dX0_tellEnd_6 : decode cX0_tellEnd 6 = .ok (.iadd, 1) := by decide +kernel
theorem dX0_tellEnd_7 : decode cX0_tellEnd 7 = .ok (.putfield 23, 3) := by decide +kernel
theorem dX0_tellEnd_10 : decode cX0_tellEnd 10 = .ok (.aload_n 0, 1) := by decide +kernel
theorem dX0_tellEnd_11 : decode cX0_tellEnd 11 = .ok (.iconst 1, 1) := by decide +kernel
theorem dX0_tellEnd_12 : decode cX0_tellEnd 12 = .ok (.putfield 32, 3) := by decide +kernel
theorem dX0_tellEnd_15 : decode cX0_tellEnd 15 = .ok (.return_, 1) := by decide +kernel
theorem dX1_init_0 : decode cX1_init 0 = .ok (.aload_n 0, 1) := by decide +kernel
theorem dX1_init_1 : decode cX1_init 1 = .ok (.invokespecial 3, 3) := by decide +kernel
theorem dX1_init_4 : decode cX1_init 4 = .ok (.aload_n 0, 1) := by decide +kernel
theorem dX1_init_5 : decode cX1_init 5 = .ok (.iconst 0, 1) := by decide +kernel
theorem dX1_init_6 : decode cX1_init 6 = .ok (.putfield 9, 3) := by decide +kernel
theorem dX1_init_9 : decode cX1_init 9 = .ok (.aload_n 0, 1) := by decide +kernel
theorem dX1_init_10 : decode cX1_init 10 = .ok (.aconst_null, 1) := by decide +kernel
theorem dX1_init_11 : decode cX1_init 11 = .ok (.putfield 15, 3) := by decide +kernel
theorem dX1_init_14 : decode cX1_init 14 = .ok (.aload_n 0, 1) := by decide +kernel
theorem dX1_init_15 : decode cX1_init 15 = .ok (.iconst 0, 1) := by decide +kernel
theorem dX1_init_16 : decode cX1_init 16 = .ok (.putfield 19, 3) := by decide +kernel
theorem dX1_init_19 : decode cX1_init 19 = .ok (.aload_n 0, 1) := by decide +kernel
theorem dX1_init_20 : decode cX1_init 20 = .ok (.bipush 60, 2) := by decide +kernel
theorem dX1_init_22 : decode cX1_init 22 = .ok (.newarray .long, 2) := by decide +kernel
theorem dX1_init_24 : decode cX1_init 24 = .ok (.putfield 22, 3) := by decide +kernel
theorem dX1_init_27 : decode cX1_init 27 = .ok (.return_, 1) := by decide +kernel
theorem dX1_keepBare_0 : decode cX1_keepBare 0 = .ok (.aload_n 0, 1) := by decide +kernel
theorem dX1_keepBare_1 : decode cX1_keepBare 1 = .ok (.iload_n 1, 1) := by decide +kernel
theorem dX1_keepBare_2 : decode cX1_keepBare 2 = .ok (.putfield 9, 3) := by decide +kernel
theorem dX1_keepBare_5 : decode cX1_keepBare 5 = .ok (.aload_n 0, 1) := by decide +kernel
theorem dX1_keepBare_6 : decode cX1_keepBare 6 = .ok (.aconst_null, 1) := by decide +kernel
theorem dX1_keepBare_7 : decode cX1_keepBare 7 = .ok (.putfield 15, 3) := by decide +kernel
theorem dX1_keepBare_10 : decode cX1_keepBare 10 = .ok (.return_, 1) := by decide +kernel
theorem dX1_keepAlarm_0 : decode cX1_keepAlarm 0 = .ok (.aload_n 0, 1) := by decide +kernel
theorem dX1_keepAlarm_1 : decode cX1_keepAlarm 1 = .ok (.iconst 1, 1) := by decide +kernel
theorem dX1_keepAlarm_2 : decode cX1_keepAlarm 2 = .ok (.putfield 9, 3) := by decide +kernel
theorem dX1_keepAlarm_5 : decode cX1_keepAlarm 5 = .ok (.aload_n 0, 1) := by decide +kernel
theorem dX1_keepAlarm_6 : decode cX1_keepAlarm 6 = .ok (.aload_n 1, 1) := by decide +kernel
theorem dX1_keepAlarm_7 : decode cX1_keepAlarm 7 = .ok (.putfield 15, 3) := by decide +kernel
theorem dX1_keepAlarm_10 : decode cX1_keepAlarm 10 = .ok (.return_, 1) := by decide +kernel
theorem dX1_keepRow_0 : decode cX1_keepRow 0 = .ok (.aload_n 0, 1) := by decide +kernel
theorem dX1_keepRow_1 : decode cX1_keepRow 1 = .ok (.iload_n 1, 1) := by decide +kernel
theorem dX1_keepRow_2 : decode cX1_keepRow 2 = .ok (.putfield 9, 3) := by decide +kernel
theorem dX1_keepRow_5 : decode cX1_keepRow 5 = .ok (.aload_n 0, 1) := by decide +kernel
theorem dX1_keepRow_6 : decode cX1_keepRow 6 = .ok (.aconst_null, 1) := by decide +kernel
theorem dX1_keepRow_7 : decode cX1_keepRow 7 = .ok (.putfield 15, 3) := by decide +kernel
theorem dX1_keepRow_10 : decode cX1_keepRow 10 = .ok (.aload_n 0, 1) := by decide +kernel
theorem dX1_keepRow_11 : decode cX1_keepRow 11 = .ok (.iload_n 2, 1) := by decide +kernel
theorem dX1_keepRow_12 : decode cX1_keepRow 12 = .ok (.bipush 60, 2) := by decide +kernel
theorem dX1_keepRow_14 : decode cX1_keepRow 14 = .ok (.invokestatic 26, 3) := by decide +kernel
theorem dX1_keepRow_17 : decode cX1_keepRow 17 = .ok (.putfield 19, 3) := by decide +kernel
theorem dX1_keepRow_20 : decode cX1_keepRow 20 = .ok (.aload_n 0, 1) := by decide +kernel
theorem dX1_keepRow_21 : decode cX1_keepRow 21 = .ok (.getfield 22, 3) := by decide +kernel
theorem dX1_keepRow_24 : decode cX1_keepRow 24 = .ok (.lconst 0, 1) := by decide +kernel
theorem dX1_keepRow_25 : decode cX1_keepRow 25 = .ok (.invokestatic 32, 3) := by decide +kernel
theorem dX1_keepRow_28 : decode cX1_keepRow 28 = .ok (.return_, 1) := by decide +kernel
theorem dX1_isRow_0 : decode cX1_isRow 0 = .ok (.aload_n 0, 1) := by decide +kernel
theorem dX1_isRow_1 : decode cX1_isRow 1 = .ok (.getfield 9, 3) := by decide +kernel
theorem dX1_isRow_4 : decode cX1_isRow 4 = .ok (.iconst 3, 1) := by decide +kernel
theorem dX1_isRow_5 : decode cX1_isRow 5 = .ok (.if_icmp .eq 11, 3) := by decide +kernel
theorem dX1_isRow_8 : decode cX1_isRow 8 = .ok (.aload_n 0, 1) := by decide +kernel
theorem dX1_isRow_9 : decode cX1_isRow 9 = .ok (.getfield 9, 3) := by decide +kernel
theorem dX1_isRow_12 : decode cX1_isRow 12 = .ok (.iconst 4, 1) := by decide +kernel
theorem dX1_isRow_13 : decode cX1_isRow 13 = .ok (.if_icmp .ne 7, 3) := by decide +kernel
theorem dX1_isRow_16 : decode cX1_isRow 16 = .ok (.iconst 1, 1) := by decide +kernel
theorem dX1_isRow_17 : decode cX1_isRow 17 = .ok (.goto 4, 3) := by decide +kernel
theorem dX1_isRow_20 : decode cX1_isRow 20 = .ok (.iconst 0, 1) := by decide +kernel
theorem dX1_isRow_21 : decode cX1_isRow 21 = .ok (.ireturn, 1) := by decide +kernel
theorem dX1_put_0 : decode cX1_put 0 = .ok (.iload_n 1, 1) := by decide +kernel
theorem dX1_put_1 : decode cX1_put 1 = .ok (.ifCond .lt 19, 3) := by decide +kernel
theorem dX1_put_4 : decode cX1_put 4 = .ok (.iload_n 1, 1) := by decide +kernel
theorem dX1_put_5 : decode cX1_put 5 = .ok (.aload_n 0, 1) := by decide +kernel
theorem dX1_put_6 : decode cX1_put 6 = .ok (.getfield 22, 3) := by decide +kernel
theorem dX1_put_9 : decode cX1_put 9 = .ok (.arraylength, 1) := by decide +kernel
theorem dX1_put_10 : decode cX1_put 10 = .ok (.if_icmp .ge 10, 3) := by decide +kernel
theorem dX1_put_13 : decode cX1_put 13 = .ok (.aload_n 0, 1) := by decide +kernel
theorem dX1_put_14 : decode cX1_put 14 = .ok (.getfield 22, 3) := by decide +kernel
theorem dX1_put_17 : decode cX1_put 17 = .ok (.iload_n 1, 1) := by decide +kernel
theorem dX1_put_18 : decode cX1_put 18 = .ok (.lload_n 2, 1) := by decide +kernel
theorem dX1_put_19 : decode cX1_put 19 = .ok (.lastore, 1) := by decide +kernel
theorem dX1_put_20 : decode cX1_put 20 = .ok (.return_, 1) := by decide +kernel
theorem dX1_get_0 : decode cX1_get 0 = .ok (.iload_n 1, 1) := by decide +kernel
theorem dX1_get_1 : decode cX1_get 1 = .ok (.ifCond .lt 21, 3) := by decide +kernel
theorem dX1_get_4 : decode cX1_get 4 = .ok (.iload_n 1, 1) := by decide +kernel
theorem dX1_get_5 : decode cX1_get 5 = .ok (.aload_n 0, 1) := by decide +kernel
theorem dX1_get_6 : decode cX1_get 6 = .ok (.getfield 22, 3) := by decide +kernel
theorem dX1_get_9 : decode cX1_get 9 = .ok (.arraylength, 1) := by decide +kernel
theorem dX1_get_10 : decode cX1_get 10 = .ok (.if_icmp .ge 12, 3) := by decide +kernel
theorem dX1_get_13 : decode cX1_get 13 = .ok (.aload_n 0, 1) := by decide +kernel
theorem dX1_get_14 : decode cX1_get 14 = .ok (.getfield 22, 3) := by decide +kernel
theorem dX1_get_17 : decode cX1_get 17 = .ok (.iload_n 1, 1) := by decide +kernel
theorem dX1_get_18 : decode cX1_get 18 = .ok (.laload, 1) := by decide +kernel
theorem dX1_get_19 : decode cX1_get 19 = .ok (.goto 4, 3) := by decide +kernel
theorem dX1_get_22 : decode cX1_get 22 = .ok (.lconst 0, 1) := by decide +kernel
theorem dX1_get_23 : decode cX1_get 23 = .ok (.lreturn, 1) := by decide +kernel
theorem dX1_hasSpan_0 : decode cX1_hasSpan 0 = .ok (.iload_n 1, 1) := by decide +kernel
theorem dX1_hasSpan_1 : decode cX1_hasSpan 1 = .ok (.ifCond .lt 21, 3) := by decide +kernel
theorem dX1_hasSpan_4 : decode cX1_hasSpan 4 = .ok (.iload_n 2, 1) := by decide +kernel
theorem dX1_hasSpan_5 : decode cX1_hasSpan 5 = .ok (.ifCond .lt 17, 3) := by decide +kernel
theorem dX1_hasSpan_8 : decode cX1_hasSpan 8 = .ok (.iload_n 1, 1) := by decide +kernel
theorem dX1_hasSpan_9 : decode cX1_hasSpan 9 = .ok (.aload_n 0, 1) := by decide +kernel
theorem dX1_hasSpan_10 : decode cX1_hasSpan 10 = .ok (.getfield 19, 3) := by decide +kernel
theorem dX1_hasSpan_13 : decode cX1_hasSpan 13 = .ok (.iload_n 2, 1) := by decide +kernel
theorem dX1_hasSpan_14 : decode cX1_hasSpan 14 = .ok (.isub, 1) := by decide +kernel
theorem dX1_hasSpan_15 : decode cX1_hasSpan 15 = .ok (.if_icmp .gt 7, 3) := by decide +kernel
theorem dX1_hasSpan_18 : decode cX1_hasSpan 18 = .ok (.iconst 1, 1) := by decide +kernel
theorem dX1_hasSpan_19 : decode cX1_hasSpan 19 = .ok (.goto 4, 3) := by decide +kernel
theorem dX1_hasSpan_22 : decode cX1_hasSpan 22 = .ok (.iconst 0, 1) := by decide +kernel
theorem dX1_hasSpan_23 : decode cX1_hasSpan 23 = .ok (.ireturn, 1) := by decide +kernel
theorem dX2_init_0 : decode cX2_init 0 = .ok (.aload_n 0, 1) := by decide +kernel
theorem dX2_init_1 : decode cX2_init 1 = .ok (.invokespecial 3, 3) := by decide +kernel
theorem dX2_init_4 : decode cX2_init 4 = .ok (.aload_n 0, 1) := by decide +kernel
theorem dX2_init_5 : decode cX2_init 5 = .ok (.iconst 0, 1) := by decide +kernel
theorem dX2_init_6 : decode cX2_init 6 = .ok (.putfield 9, 3) := by decide +kernel
theorem dX2_init_9 : decode cX2_init 9 = .ok (.aload_n 0, 1) := by decide +kernel
theorem dX2_init_10 : decode cX2_init 10 = .ok (.iconst 0, 1) := by decide +kernel
theorem dX2_init_11 : decode cX2_init 11 = .ok (.putfield 15, 3) := by decide +kernel
theorem dX2_init_14 : decode cX2_init 14 = .ok (.aload_n 0, 1) := by decide +kernel
theorem dX2_init_15 : decode cX2_init 15 = .ok (.iconst 0, 1) := by decide +kernel
theorem dX2_init_16 : decode cX2_init 16 = .ok (.putfield 19, 3) := by decide +kernel
theorem dX2_init_19 : decode cX2_init 19 = .ok (.aload_n 0, 1) := by decide +kernel
theorem dX2_init_20 : decode cX2_init 20 = .ok (.iconst 0, 1) := by decide +kernel
theorem dX2_init_21 : decode cX2_init 21 = .ok (.putfield 22, 3) := by decide +kernel
theorem dX2_init_24 : decode cX2_init 24 = .ok (.aload_n 0, 1) := by decide +kernel
theorem dX2_init_25 : decode cX2_init 25 = .ok (.iconst 0, 1) := by decide +kernel
theorem dX2_init_26 : decode cX2_init 26 = .ok (.putfield 25, 3) := by decide +kernel
theorem dX2_init_29 : decode cX2_init 29 = .ok (.aload_n 0, 1) := by decide +kernel
theorem dX2_init_30 : decode cX2_init 30 = .ok (.aload_n 1, 1) := by decide +kernel
theorem dX2_init_31 : decode cX2_init 31 = .ok (.putfield 28, 3) := by decide +kernel
theorem dX2_init_34 : decode cX2_init 34 = .ok (.aload_n 0, 1) := by decide +kernel
theorem dX2_init_35 : decode cX2_init 35 = .ok (.aload_n 2, 1) := by decide +kernel
theorem dX2_init_36 : decode cX2_init 36 = .ok (.putfield 32, 3) := by decide +kernel
theorem dX2_init_39 : decode cX2_init 39 = .ok (.return_, 1) := by decide +kernel
theorem dX2_isAlike_0 : decode cX2_isAlike 0 = .ok (.iload_n 3, 1) := by decide +kernel
theorem dX2_isAlike_1 : decode cX2_isAlike 1 = .ok (.iconst 1, 1) := by decide +kernel
theorem dX2_isAlike_2 : decode cX2_isAlike 2 = .ok (.iand, 1) := by decide +kernel
theorem dX2_isAlike_3 : decode cX2_isAlike 3 = .ok (.ifCond .eq 17, 3) := by decide +kernel
theorem dX2_isAlike_6 : decode cX2_isAlike 6 = .ok (.aload_n 0, 1) := by decide +kernel
theorem dX2_isAlike_7 : decode cX2_isAlike 7 = .ok (.getfield 32, 3) := by decide +kernel
theorem dX2_isAlike_10 : decode cX2_isAlike 10 = .ok (.getfield 36, 3) := by decide +kernel
theorem dX2_isAlike_13 : decode cX2_isAlike 13 = .ok (.aload_n 2, 1) := by decide +kernel
theorem dX2_isAlike_14 : decode cX2_isAlike 14 = .ok (.getfield 36, 3) := by decide +kernel
theorem dX2_isAlike_17 : decode cX2_isAlike 17 = .ok (.if_icmp .ne 47, 3) := by decide +kernel
theorem dX2_isAlike_20 : decode cX2_isAlike 20 = .ok (.iload_n 3, 1) := by decide +kernel
theorem dX2_isAlike_21 : decode cX2_isAlike 21 = .ok (.iconst 2, 1) := by decide +kernel
theorem dX2_isAlike_22 : decode cX2_isAlike 22 = .ok (.iand, 1) := by decide +kernel
theorem dX2_isAlike_23 : decode cX2_isAlike 23 = .ok (.ifCond .eq 17, 3) := by decide +kernel
theorem dX2_isAlike_26 : decode cX2_isAlike 26 = .ok (.aload_n 0, 1) := by decide +kernel
theorem dX2_isAlike_27 : decode cX2_isAlike 27 = .ok (.getfield 28, 3) := by decide +kernel
theorem dX2_isAlike_30 : decode cX2_isAlike 30 = .ok (.getfield 41, 3) := by decide +kernel
theorem dX2_isAlike_33 : decode cX2_isAlike 33 = .ok (.aload_n 1, 1) := by decide +kernel
theorem dX2_isAlike_34 : decode cX2_isAlike 34 = .ok (.getfield 41, 3) := by decide +kernel
theorem dX2_isAlike_37 : decode cX2_isAlike 37 = .ok (.if_icmp .ne 27, 3) := by decide +kernel
theorem dX2_isAlike_40 : decode cX2_isAlike 40 = .ok (.iload_n 3, 1) := by decide +kernel
theorem dX2_isAlike_41 : decode cX2_isAlike 41 = .ok (.iconst 4, 1) := by decide +kernel
theorem dX2_isAlike_42 : decode cX2_isAlike 42 = .ok (.iand, 1) := by decide +kernel
theorem dX2_isAlike_43 : decode cX2_isAlike 43 = .ok (.ifCond .eq 17, 3) := by decide +kernel
theorem dX2_isAlike_46 : decode cX2_isAlike 46 = .ok (.aload_n 0, 1) := by decide +kernel
theorem dX2_isAlike_47 : decode cX2_isAlike 47 = .ok (.getfield 28, 3) := by decide +kernel
theorem dX2_isAlike_50 : decode cX2_isAlike 50 = .ok (.getfield 46, 3) := by decide +kernel
theorem dX2_isAlike_53 : decode cX2_isAlike 53 = .ok (.aload_n 1, 1) := by decide +kernel
theorem dX2_isAlike_54 : decode cX2_isAlike 54 = .ok (.getfield 46, 3) := by decide +kernel
theorem dX2_isAlike_57 : decode cX2_isAlike 57 = .ok (.if_icmp .ne 7, 3) := by decide +kernel
theorem dX2_isAlike_60 : decode cX2_isAlike 60 = .ok (.iconst 1, 1) := by decide +kernel
theorem dX2_isAlike_61 : decode cX2_isAlike 61 = .ok (.goto 4, 3) := by decide +kernel
theorem dX2_isAlike_64 : decode cX2_isAlike 64 = .ok (.iconst 0, 1) := by decide +kernel
theorem dX2_isAlike_65 : decode cX2_isAlike 65 = .ok (.ireturn, 1) := by decide +kernel
theorem dX2_hasFresh_0 : decode cX2_hasFresh 0 = .ok (.aload_n 0, 1) := by decide +kernel
theorem dX2_hasFresh_1 : decode cX2_hasFresh 1 = .ok (.getfield 25, 3) := by decide +kernel
theorem dX2_hasFresh_4 : decode cX2_hasFresh 4 = .ok (.ifCond .le 7, 3) := by decide +kernel
theorem dX2_hasFresh_7 : decode cX2_hasFresh 7 = .ok (.iconst 1, 1) := by decide +kernel
theorem dX2_hasFresh_8 : decode cX2_hasFresh 8 = .ok (.goto 4, 3) := by decide +kernel
theorem dX2_hasFresh_11 : decode cX2_hasFresh 11 = .ok (.iconst 0, 1) := by decide +kernel
theorem dX2_hasFresh_12 : decode cX2_hasFresh 12 = .ok (.ireturn, 1) := by decide +kernel
theorem dX2_forget_0 : decode cX2_forget 0 = .ok (.aload_n 0, 1) := by decide +kernel
theorem dX2_forget_1 : decode cX2_forget 1 = .ok (.iconst 0, 1) := by decide +kernel
theorem dX2_forget_2 : decode cX2_forget 2 = .ok (.putfield 19, 3) := by decide +kernel
theorem dX2_forget_5 : decode cX2_forget 5 = .ok (.aload_n 0, 1) := by decide +kernel
theorem dX2_forget_6 : decode cX2_forget 6 = .ok (.iconst 0, 1) := by decide +kernel
theorem dX2_forget_7 : decode cX2_forget 7 = .ok (.putfield 22, 3) := by decide +kernel
theorem dX2_forget_10 : decode cX2_forget 10 = .ok (.aload_n 0, 1) := by decide +kernel
theorem dX2_forget_11 : decode cX2_forget 11 = .ok (.iconst 0, 1) := by decide +kernel
theorem dX2_forget_12 : decode cX2_forget 12 = .ok (.putfield 25, 3) := by decide +kernel
theorem dX2_forget_15 : decode cX2_forget 15 = .ok (.return_, 1) := by decide +kernel
theorem dX2_see_0 : decode cX2_see 0 = .ok (.aload_n 0, 1) := by decide +kernel
theorem dX2_see_1 : decode cX2_see 1 = .ok (.aload_n 0, 1) := by decide +kernel
theorem dX2_see_2 : decode cX2_see 2 = .ok (.getfield 19, 3) := by decide +kernel
theorem dX2_see_5 : decode cX2_see 5 = .ok (.ifCond .ne 10, 3) := by decide +kernel
theorem dX2_see_8 : decode cX2_see 8 = .ok (.aload_n 1, 1) := by decide +kernel
theorem dX2_see_9 : decode cX2_see 9 = .ok (.invokevirtual 49, 3) := by decide +kernel
theorem dX2_see_12 : decode cX2_see 12 = .ok (.ifCond .eq 7, 3) := by decide +kernel
theorem dX2_see_15 : decode cX2_see 15 = .ok (.iconst 1, 1) := by decide +kernel
theorem dX2_see_16 : decode cX2_see 16 = .ok (.goto 4, 3) := by decide +kernel
theorem dX2_see_19 : decode cX2_see 19 = .ok (.iconst 0, 1) := by decide +kernel
theorem dX2_see_20 : decode cX2_see 20 = .ok (.putfield 19, 3) := by decide +kernel
theorem dX2_see_23 : decode cX2_see 23 = .ok (.aload_n 0, 1) := by decide +kernel
theorem dX2_see_24 : decode cX2_see 24 = .ok (.aload_n 0, 1) := by decide +kernel
theorem dX2_see_25 : decode cX2_see 25 = .ok (.getfield 22, 3) := by decide +kernel
theorem dX2_see_28 : decode cX2_see 28 = .ok (.ifCond .ne 10, 3) := by decide +kernel
theorem dX2_see_31 : decode cX2_see 31 = .ok (.aload_n 1, 1) := by decide +kernel
theorem dX2_see_32 : decode cX2_see 32 = .ok (.invokevirtual 55, 3) := by decide +kernel
theorem dX2_see_35 : decode cX2_see 35 = .ok (.ifCond .eq 7, 3) := by decide +kernel
theorem dX2_see_38 : decode cX2_see 38 = .ok (.iconst 1, 1) := by decide +kernel
theorem dX2_see_39 : decode cX2_see 39 = .ok (.goto 4, 3) := by decide +kernel
theorem dX2_see_42 : decode cX2_see 42 = .ok (.iconst 0, 1) := by decide +kernel
theorem dX2_see_43 : decode cX2_see 43 = .ok (.putfield 22, 3) := by decide +kernel
theorem dX2_see_46 : decode cX2_see 46 = .ok (.aload_n 1, 1) := by decide +kernel
theorem dX2_see_47 : decode cX2_see 47 = .ok (.invokevirtual 58, 3) := by decide +kernel
theorem dX2_see_50 : decode cX2_see 50 = .ok (.ifCond .eq 29, 3) := by decide +kernel
theorem dX2_see_53 : decode cX2_see 53 = .ok (.aload_n 0, 1) := by decide +kernel
theorem dX2_see_54 : decode cX2_see 54 = .ok (.getfield 25, 3) := by decide +kernel
theorem dX2_see_57 : decode cX2_see 57 = .ok (.ifCond .eq 14, 3) := by decide +kernel
theorem dX2_see_60 : decode cX2_see 60 = .ok (.aload_n 1, 1) := by decide +kernel
theorem dX2_see_61 : decode cX2_see 61 = .ok (.getfield 61, 3) := by decide +kernel
theorem dX2_see_64 : decode cX2_see 64 = .ok (.aload_n 0, 1) := by decide +kernel
theorem dX2_see_65 : decode cX2_see 65 = .ok (.getfield 25, 3) := by decide +kernel
theorem dX2_see_68 : decode cX2_see 68 = .ok (.if_icmp .ge 11, 3) := by decide +kernel
theorem dX2_see_71 : decode cX2_see 71 = .ok (.aload_n 0, 1) := by decide +kernel
theorem dX2_see_72 : decode cX2_see 72 = .ok (.aload_n 1, 1) := by decide +kernel
theorem dX2_see_73 : decode cX2_see 73 = .ok (.getfield 61, 3) := by decide +kernel
theorem dX2_see_76 : decode cX2_see 76 = .ok (.putfield 25, 3) := by decide +kernel
theorem dX2_see_79 : decode cX2_see 79 = .ok (.return_, 1) := by decide +kernel
theorem dX3_init_0 : decode cX3_init 0 = .ok (.aload_n 0, 1) := by decide +kernel
theorem dX3_init_1 : decode cX3_init 1 = .ok (.invokespecial 3, 3) := by decide +kernel
theorem dX3_init_4 : decode cX3_init 4 = .ok (.aload_n 0, 1) := by decide +kernel
theorem dX3_init_5 : decode cX3_init 5 = .ok (.bipush 8, 2) := by decide +kernel
theorem dX3_init_7 : decode cX3_init 7 = .ok (.newarray .int, 2) := by decide +kernel
theorem dX3_init_9 : decode cX3_init 9 = .ok (.putfield 9, 3) := by decide +kernel
theorem dX3_init_12 : decode cX3_init 12 = .ok (.aload_n 0, 1) := by decide +kernel
theorem dX3_init_13 : decode cX3_init 13 = .ok (.iconst 0, 1) := by decide +kernel
theorem dX3_init_14 : decode cX3_init 14 = .ok (.putfield 15, 3) := by decide +kernel
theorem dX3_init_17 : decode cX3_init 17 = .ok (.aload_n 0, 1) := by decide +kernel
theorem dX3_init_18 : decode cX3_init 18 = .ok (.iconst 0, 1) := by decide +kernel
theorem dX3_init_19 : decode cX3_init 19 = .ok (.putfield 19, 3) := by decide +kernel
theorem dX3_init_22 : decode cX3_init 22 = .ok (.aload_n 0, 1) := by decide +kernel
theorem dX3_init_23 : decode cX3_init 23 = .ok (.bipush (-2), 2) := by decide +kernel
theorem dX3_init_25 : decode cX3_init 25 = .ok (.putfield 22, 3) := by decide +kernel
theorem dX3_init_28 : decode cX3_init 28 = .ok (.aload_n 0, 1) := by decide +kernel
theorem dX3_init_29 : decode cX3_init 29 = .ok (.iconst 0, 1) := by decide +kernel
theorem dX3_init_30 : decode cX3_init 30 = .ok (.putfield 25, 3) := by decide +kernel
theorem dX3_init_33 : decode cX3_init 33 = .ok (.aload_n 0, 1) := by decide +kernel
theorem dX3_init_34 : decode cX3_init 34 = .ok (.iconst 0, 1) := by decide +kernel
theorem dX3_init_35 : decode cX3_init 35 = .ok (.putfield 28, 3) := by decide +kernel
theorem dX3_init_38 : decode cX3_init 38 = .ok (.aload_n 0, 1) := by decide +kernel
theorem dX3_init_39 : decode cX3_init 39 = .ok (.bipush 40, 2) := by decide +kernel
theorem dX3_init_41 : decode cX3_init 41 = .ok (.newarray .int, 2) := by decide +kernel
theorem dX3_init_43 : decode cX3_init 43 = .ok (.putfield 31, 3) := by decide +kernel
theorem dX3_init_46 : decode cX3_init 46 = .ok (.aload_n 0, 1) := by decide +kernel
theorem dX3_init_47 : decode cX3_init 47 = .ok (.aload_n 1, 1) := by decide +kernel
theorem dX3_init_48 : decode cX3_init 48 = .ok (.putfield 34, 3) := by decide +kernel
theorem dX3_init_51 : decode cX3_init 51 = .ok (.aload_n 0, 1) := by decide +kernel
theorem dX3_init_52 : decode cX3_init 52 = .ok (.iload_n 2, 1) := by decide +kernel
theorem dX3_init_53 : decode cX3_init 53 = .ok (.putfield 38, 3) := by decide +kernel
theorem dX3_init_56 : decode cX3_init 56 = .ok (.aload_n 0, 1) := by decide +kernel
theorem dX3_init_57 : decode cX3_init 57 = .ok (.iload_n 3, 1) := by decide +kernel
theorem dX3_init_58 : decode cX3_init 58 = .ok (.putfield 41, 3) := by decide +kernel
theorem dX3_init_61 : decode cX3_init 61 = .ok (.aload_n 0, 1) := by decide +kernel
theorem dX3_init_62 : decode cX3_init 62 = .ok (.iload_n 3, 1) := by decide +kernel
theorem dX3_init_63 : decode cX3_init 63 = .ok (.putfield 44, 3) := by decide +kernel
theorem dX3_init_66 : decode cX3_init 66 = .ok (.return_, 1) := by decide +kernel
theorem dX3_add_0 : decode cX3_add 0 = .ok (.aload_n 0, 1) := by decide +kernel
theorem dX3_add_1 : decode cX3_add 1 = .ok (.getfield 19, 3) := by decide +kernel
theorem dX3_add_4 : decode cX3_add 4 = .ok (.aload_n 0, 1) := by decide +kernel
theorem dX3_add_5 : decode cX3_add 5 = .ok (.getfield 31, 3) := by decide +kernel
theorem dX3_add_8 : decode cX3_add 8 = .ok (.arraylength, 1) := by decide +kernel
theorem dX3_add_9 : decode cX3_add 9 = .ok (.if_icmp .lt 5, 3) := by decide +kernel
theorem dX3_add_12 : decode cX3_add 12 = .ok (.iconst 0, 1) := by decide +kernel
theorem dX3_add_13 : decode cX3_add 13 = .ok (.ireturn, 1) := by decide +kernel
theorem dX3_add_14 : decode cX3_add 14 = .ok (.aload_n 0, 1) := by decide +kernel
theorem dX3_add_15 : decode cX3_add 15 = .ok (.getfield 31, 3) := by decide +kernel
theorem dX3_add_18 : decode cX3_add 18 = .ok (.aload_n 0, 1) := by decide +kernel
theorem dX3_add_19 : decode cX3_add 19 = .ok (.getfield 19, 3) := by decide +kernel
theorem dX3_add_22 : decode cX3_add 22 = .ok (.aload_n 1, 1) := by decide +kernel
theorem dX3_add_23 : decode cX3_add 23 = .ok (.getfield 47, 3) := by decide +kernel
theorem dX3_add_26 : decode cX3_add 26 = .ok (.iastore, 1) := by decide +kernel
theorem dX3_add_27 : decode cX3_add 27 = .ok (.aload_n 0, 1) := by decide +kernel
theorem dX3_add_28 : decode cX3_add 28 = .ok (.dup, 1) := by decide +kernel
theorem dX3_add_29 : decode cX3_add 29 = .ok (.getfield 19, 3) := by decide +kernel
theorem dX3_add_32 : decode cX3_add 32 = .ok (.iconst 1, 1) := by decide +kernel
theorem dX3_add_33 : decode cX3_add 33 = .ok (.iadd, 1) := by decide +kernel
theorem dX3_add_34 : decode cX3_add 34 = .ok (.putfield 19, 3) := by decide +kernel
theorem dX3_add_37 : decode cX3_add 37 = .ok (.iconst 1, 1) := by decide +kernel
theorem dX3_add_38 : decode cX3_add 38 = .ok (.ireturn, 1) := by decide +kernel
theorem dX3_alarmAt_0 : decode cX3_alarmAt 0 = .ok (.iload_n 1, 1) := by decide +kernel
theorem dX3_alarmAt_1 : decode cX3_alarmAt 1 = .ok (.ifCond .lt 29, 3) := by decide +kernel
theorem dX3_alarmAt_4 : decode cX3_alarmAt 4 = .ok (.iload_n 1, 1) := by decide +kernel
theorem dX3_alarmAt_5 : decode cX3_alarmAt 5 = .ok (.aload_n 0, 1) := by decide +kernel
theorem dX3_alarmAt_6 : decode cX3_alarmAt 6 = .ok (.getfield 19, 3) := by decide +kernel
theorem dX3_alarmAt_9 : decode cX3_alarmAt 9 = .ok (.if_icmp .ge 21, 3) := by decide +kernel
theorem dX3_alarmAt_12 : decode cX3_alarmAt 12 = .ok (.iload_n 1, 1) := by decide +kernel
theorem dX3_alarmAt_13 : decode cX3_alarmAt 13 = .ok (.aload_n 0, 1) := by decide +kernel
theorem dX3_alarmAt_14 : decode cX3_alarmAt 14 = .ok (.getfield 31, 3) := by decide +kernel
theorem dX3_alarmAt_17 : decode cX3_alarmAt 17 = .ok (.arraylength, 1) := by decide +kernel
theorem dX3_alarmAt_18 : decode cX3_alarmAt 18 = .ok (.if_icmp .ge 12, 3) := by decide +kernel
theorem dX3_alarmAt_21 : decode cX3_alarmAt 21 = .ok (.aload_n 0, 1) := by decide +kernel
theorem dX3_alarmAt_22 : decode cX3_alarmAt 22 = .ok (.getfield 31, 3) := by decide +kernel
theorem dX3_alarmAt_25 : decode cX3_alarmAt 25 = .ok (.iload_n 1, 1) := by decide +kernel
theorem dX3_alarmAt_26 : decode cX3_alarmAt 26 = .ok (.iaload, 1) := by decide +kernel
theorem dX3_alarmAt_27 : decode cX3_alarmAt 27 = .ok (.goto 4, 3) := by decide +kernel
theorem dX3_alarmAt_30 : decode cX3_alarmAt 30 = .ok (.iconst (-1), 1) := by decide +kernel
theorem dX3_alarmAt_31 : decode cX3_alarmAt 31 = .ok (.ireturn, 1) := by decide +kernel
theorem dX3_isAnswered_0 : decode cX3_isAnswered 0 = .ok (.aload_n 0, 1) := by decide +kernel
theorem dX3_isAnswered_1 : decode cX3_isAnswered 1 = .ok (.getfield 25, 3) := by decide +kernel
theorem dX3_isAnswered_4 : decode cX3_isAnswered 4 = .ok (.ifCond .le 7, 3) := by decide +kernel
theorem dX3_isAnswered_7 : decode cX3_isAnswered 7 = .ok (.iconst 1, 1) := by decide +kernel
theorem dX3_isAnswered_8 : decode cX3_isAnswered 8 = .ok (.goto 4, 3) := by decide +kernel
theorem dX3_isAnswered_11 : decode cX3_isAnswered 11 = .ok (.iconst 0, 1) := by decide +kernel
theorem dX3_isAnswered_12 : decode cX3_isAnswered 12 = .ok (.ireturn, 1) := by decide +kernel
theorem dX3_isToAll_0 : decode cX3_isToAll 0 = .ok (.aload_n 0, 1) := by decide +kernel
theorem dX3_isToAll_1 : decode cX3_isToAll 1 = .ok (.getfield 28, 3) := by decide +kernel
theorem dX3_isToAll_4 : decode cX3_isToAll 4 = .ok (.aload_n 0, 1) := by decide +kernel
theorem dX3_isToAll_5 : decode cX3_isToAll 5 = .ok (.getfield 15, 3) := by decide +kernel
theorem dX3_isToAll_8 : decode cX3_isToAll 8 = .ok (.if_icmp .lt 7, 3) := by decide +kernel
theorem dX3_isToAll_11 : decode cX3_isToAll 11 = .ok (.iconst 1, 1) := by decide +kernel
theorem dX3_isToAll_12 : decode cX3_isToAll 12 = .ok (.goto 4, 3) := by decide +kernel
theorem dX3_isToAll_15 : decode cX3_isToAll 15 = .ok (.iconst 0, 1) := by decide +kernel
theorem dX3_isToAll_16 : decode cX3_isToAll 16 = .ok (.ireturn, 1) := by decide +kernel
theorem dX3_latestHand_0 : decode cX3_latestHand 0 = .ok (.aload_n 0, 1) := by decide +kernel
theorem dX3_latestHand_1 : decode cX3_latestHand 1 = .ok (.invokevirtual 52, 3) := by decide +kernel
theorem dX3_latestHand_4 : decode cX3_latestHand 4 = .ok (.ifCond .ne 15, 3) := by decide +kernel
theorem dX3_latestHand_7 : decode cX3_latestHand 7 = .ok (.aload_n 0, 1) := by decide +kernel
theorem dX3_latestHand_8 : decode cX3_latestHand 8 = .ok (.getfield 28, 3) := by decide +kernel
theorem dX3_latestHand_11 : decode cX3_latestHand 11 = .ok (.aload_n 0, 1) := by decide +kernel
theorem dX3_latestHand_12 : decode cX3_latestHand 12 = .ok (.getfield 9, 3) := by decide +kernel
theorem dX3_latestHand_15 : decode cX3_latestHand 15 = .ok (.arraylength, 1) := by decide +kernel
theorem dX3_latestHand_16 : decode cX3_latestHand 16 = .ok (.if_icmp .lt 8, 3) := by decide +kernel
theorem dX3_latestHand_19 : decode cX3_latestHand 19 = .ok (.bipush (-2), 2) := by decide +kernel
theorem dX3_latestHand_21 : decode cX3_latestHand 21 = .ok (.goto 12, 3) := by decide +kernel
theorem dX3_latestHand_24 : decode cX3_latestHand 24 = .ok (.aload_n 0, 1) := by decide +kernel
theorem dX3_latestHand_25 : decode cX3_latestHand 25 = .ok (.getfield 9, 3) := by decide +kernel
theorem dX3_latestHand_28 : decode cX3_latestHand 28 = .ok (.aload_n 0, 1) := by decide +kernel
theorem dX3_latestHand_29 : decode cX3_latestHand 29 = .ok (.getfield 28, 3) := by decide +kernel
theorem dX3_latestHand_32 : decode cX3_latestHand 32 = .ok (.iaload, 1) := by decide +kernel
theorem dX3_latestHand_33 : decode cX3_latestHand 33 = .ok (.ireturn, 1) := by decide +kernel
theorem dX3_climb_0 : decode cX3_climb 0 = .ok (.aload_n 0, 1) := by decide +kernel
theorem dX3_climb_1 : decode cX3_climb 1 = .ok (.invokevirtual 56, 3) := by decide +kernel
theorem dX3_climb_4 : decode cX3_climb 4 = .ok (.ifCond .ne 35, 3) := by decide +kernel
theorem dX3_climb_7 : decode cX3_climb 7 = .ok (.aload_n 0, 1) := by decide +kernel
theorem dX3_climb_8 : decode cX3_climb 8 = .ok (.invokevirtual 52, 3) := by decide +kernel
theorem dX3_climb_11 : decode cX3_climb 11 = .ok (.ifCond .ne 28, 3) := by decide +kernel
theorem dX3_climb_14 : decode cX3_climb 14 = .ok (.iload_n 1, 1) := by decide +kernel
theorem dX3_climb_15 : decode cX3_climb 15 = .ok (.aload_n 0, 1) := by decide +kernel
theorem dX3_climb_16 : decode cX3_climb 16 = .ok (.getfield 44, 3) := by decide +kernel
theorem dX3_climb_19 : decode cX3_climb 19 = .ok (.iload_n 2, 1) := by decide +kernel
theorem dX3_climb_20 : decode cX3_climb 20 = .ok (.iadd, 1) := by decide +kernel
theorem dX3_climb_21 : decode cX3_climb 21 = .ok (.if_icmp .lt 18, 3) := by decide +kernel
theorem dX3_climb_24 : decode cX3_climb 24 = .ok (.aload_n 0, 1) := by decide +kernel
theorem dX3_climb_25 : decode cX3_climb 25 = .ok (.dup, 1) := by decide +kernel
theorem dX3_climb_26 : decode cX3_climb 26 = .ok (.getfield 28, 3) := by decide +kernel
theorem dX3_climb_29 : decode cX3_climb 29 = .ok (.iconst 1, 1) := by decide +kernel
theorem dX3_climb_30 : decode cX3_climb 30 = .ok (.iadd, 1) := by decide +kernel
theorem dX3_climb_31 : decode cX3_climb 31 = .ok (.putfield 28, 3) := by decide +kernel
theorem dX3_climb_34 : decode cX3_climb 34 = .ok (.aload_n 0, 1) := by decide +kernel
theorem dX3_climb_35 : decode cX3_climb 35 = .ok (.iload_n 1, 1) := by decide +kernel
theorem dX3_climb_36 : decode cX3_climb 36 = .ok (.putfield 44, 3) := by decide +kernel
theorem dX3_climb_39 : decode cX3_climb 39 = .ok (.return_, 1) := by decide +kernel
theorem dX3_wentTo_0 : decode cX3_wentTo 0 = .ok (.aload_n 0, 1) := by decide +kernel
theorem dX3_wentTo_1 : decode cX3_wentTo 1 = .ok (.invokevirtual 52, 3) := by decide +kernel
theorem dX3_wentTo_4 : decode cX3_wentTo 4 = .ok (.ifCond .eq 5, 3) := by decide +kernel
theorem dX3_wentTo_7 : decode cX3_wentTo 7 = .ok (.iconst 1, 1) := by decide +kernel
theorem dX3_wentTo_8 : decode cX3_wentTo 8 = .ok (.ireturn, 1) := by decide +kernel
theorem dX3_wentTo_9 : decode cX3_wentTo 9 = .ok (.iconst 0, 1) := by decide +kernel
theorem dX3_wentTo_10 : decode cX3_wentTo 10 = .ok (.istore_n 2, 1) := by decide +kernel
theorem dX3_wentTo_11 : decode cX3_wentTo 11 = .ok (.iload_n 2, 1) := by decide +kernel
theorem dX3_wentTo_12 : decode cX3_wentTo 12 = .ok (.aload_n 0, 1) := by decide +kernel
theorem dX3_wentTo_13 : decode cX3_wentTo 13 = .ok (.getfield 28, 3) := by decide +kernel
theorem dX3_wentTo_16 : decode cX3_wentTo 16 = .ok (.if_icmp .gt 30, 3) := by decide +kernel
theorem dX3_wentTo_19 : decode cX3_wentTo 19 = .ok (.iload_n 2, 1) := by decide +kernel
theorem dX3_wentTo_20 : decode cX3_wentTo 20 = .ok (.aload_n 0, 1) := by decide +kernel
theorem dX3_wentTo_21 : decode cX3_wentTo 21 = .ok (.getfield 9, 3) := by decide +kernel
theorem dX3_wentTo_24 : decode cX3_wentTo 24 = .ok (.arraylength, 1) := by decide +kernel
theorem dX3_wentTo_25 : decode cX3_wentTo 25 = .ok (.if_icmp .ge 21, 3) := by decide +kernel
theorem dX3_wentTo_28 : decode cX3_wentTo 28 = .ok (.aload_n 0, 1) := by decide +kernel
theorem dX3_wentTo_29 : decode cX3_wentTo 29 = .ok (.getfield 9, 3) := by decide +kernel
theorem dX3_wentTo_32 : decode cX3_wentTo 32 = .ok (.iload_n 2, 1) := by decide +kernel
theorem dX3_wentTo_33 : decode cX3_wentTo 33 = .ok (.iaload, 1) := by decide +kernel
theorem dX3_wentTo_34 : decode cX3_wentTo 34 = .ok (.iload_n 1, 1) := by decide +kernel
theorem dX3_wentTo_35 : decode cX3_wentTo 35 = .ok (.if_icmp .ne 5, 3) := by decide +kernel
theorem dX3_wentTo_38 : decode cX3_wentTo 38 = .ok (.iconst 1, 1) := by decide +kernel
theorem dX3_wentTo_39 : decode cX3_wentTo 39 = .ok (.ireturn, 1) := by decide +kernel
theorem dX3_wentTo_40 : decode cX3_wentTo 40 = .ok (.iinc 2 1, 3) := by decide +kernel
theorem dX3_wentTo_43 : decode cX3_wentTo 43 = .ok (.goto (-32), 3) := by decide +kernel
theorem dX3_wentTo_46 : decode cX3_wentTo 46 = .ok (.iconst 0, 1) := by decide +kernel
theorem dX3_wentTo_47 : decode cX3_wentTo 47 = .ok (.ireturn, 1) := by decide +kernel
theorem dX4_init_0 : decode cX4_init 0 = .ok (.aload_n 0, 1) := by decide +kernel
theorem dX4_init_1 : decode cX4_init 1 = .ok (.invokespecial 3, 3) := by decide +kernel
theorem dX4_init_4 : decode cX4_init 4 = .ok (.aload_n 0, 1) := by decide +kernel
theorem dX4_init_5 : decode cX4_init 5 = .ok (.iconst 0, 1) := by decide +kernel
theorem dX4_init_6 : decode cX4_init 6 = .ok (.putfield 9, 3) := by decide +kernel
theorem dX4_init_9 : decode cX4_init 9 = .ok (.aload_n 0, 1) := by decide +kernel
theorem dX4_init_10 : decode cX4_init 10 = .ok (.new 15, 3) := by decide +kernel
theorem dX4_init_13 : decode cX4_init 13 = .ok (.dup, 1) := by decide +kernel
theorem dX4_init_14 : decode cX4_init 14 = .ok (.invokespecial 17, 3) := by decide +kernel
theorem dX4_init_17 : decode cX4_init 17 = .ok (.putfield 18, 3) := by decide +kernel
theorem dX4_init_20 : decode cX4_init 20 = .ok (.aload_n 0, 1) := by decide +kernel
theorem dX4_init_21 : decode cX4_init 21 = .ok (.new 15, 3) := by decide +kernel
theorem dX4_init_24 : decode cX4_init 24 = .ok (.dup, 1) := by decide +kernel
theorem dX4_init_25 : decode cX4_init 25 = .ok (.invokespecial 17, 3) := by decide +kernel
theorem dX4_init_28 : decode cX4_init 28 = .ok (.putfield 22, 3) := by decide +kernel
theorem dX4_init_31 : decode cX4_init 31 = .ok (.aload_n 0, 1) := by decide +kernel
theorem dX4_init_32 : decode cX4_init 32 = .ok (.bipush 8, 2) := by decide +kernel
theorem dX4_init_34 : decode cX4_init 34 = .ok (.newarray .int, 2) := by decide +kernel
theorem dX4_init_36 : decode cX4_init 36 = .ok (.putfield 25, 3) := by decide +kernel
theorem dX4_init_39 : decode cX4_init 39 = .ok (.aload_n 0, 1) := by decide +kernel
theorem dX4_init_40 : decode cX4_init 40 = .ok (.bipush 8, 2) := by decide +kernel
theorem dX4_init_42 : decode cX4_init 42 = .ok (.newarray .int, 2) := by decide +kernel
theorem dX4_init_44 : decode cX4_init 44 = .ok (.putfield 29, 3) := by decide +kernel
theorem dX4_init_47 : decode cX4_init 47 = .ok (.return_, 1) := by decide +kernel
theorem dX4_hasHand_0 : decode cX4_hasHand 0 = .ok (.iload_n 1, 1) := by decide +kernel
theorem dX4_hasHand_1 : decode cX4_hasHand 1 = .ok (.ifCond .lt 15, 3) := by decide +kernel
theorem dX4_hasHand_4 : decode cX4_hasHand 4 = .ok (.iload_n 1, 1) := by decide +kernel
theorem dX4_hasHand_5 : decode cX4_hasHand 5 = .ok (.aload_n 0, 1) := by decide +kernel
theorem dX4_hasHand_6 : decode cX4_hasHand 6 = .ok (.getfield 9, 3) := by decide +kernel
theorem dX4_hasHand_9 : decode cX4_hasHand 9 = .ok (.if_icmp .ge 7, 3) := by decide +kernel
theorem dX4_hasHand_12 : decode cX4_hasHand 12 = .ok (.iconst 1, 1) := by decide +kernel
theorem dX4_hasHand_13 : decode cX4_hasHand 13 = .ok (.goto 4, 3) := by decide +kernel
theorem dX4_hasHand_16 : decode cX4_hasHand 16 = .ok (.iconst 0, 1) := by decide +kernel
theorem dX4_hasHand_17 : decode cX4_hasHand 17 = .ok (.ireturn, 1) := by decide +kernel
theorem dX4_addHand_0 : decode cX4_addHand 0 = .ok (.aload_n 0, 1) := by decide +kernel
theorem dX4_addHand_1 : decode cX4_addHand 1 = .ok (.getfield 9, 3) := by decide +kernel
theorem dX4_addHand_4 : decode cX4_addHand 4 = .ok (.bipush 8, 2) := by decide +kernel
theorem dX4_addHand_6 : decode cX4_addHand 6 = .ok (.if_icmp .lt 6, 3) := by decide +kernel
theorem dX4_addHand_9 : decode cX4_addHand 9 = .ok (.bipush (-2), 2) := by decide +kernel
theorem dX4_addHand_11 : decode cX4_addHand 11 = .ok (.ireturn, 1) := by decide +kernel
theorem dX4_addHand_12 : decode cX4_addHand 12 = .ok (.aload_n 0, 1) := by decide +kernel
theorem dX4_addHand_13 : decode cX4_addHand 13 = .ok (.dup, 1) := by decide +kernel
theorem dX4_addHand_14 : decode cX4_addHand 14 = .ok (.getfield 9, 3) := by decide +kernel
theorem dX4_addHand_17 : decode cX4_addHand 17 = .ok (.iconst 1, 1) := by decide +kernel
theorem dX4_addHand_18 : decode cX4_addHand 18 = .ok (.iadd, 1) := by decide +kernel
theorem dX4_addHand_19 : decode cX4_addHand 19 = .ok (.putfield 9, 3) := by decide +kernel
theorem dX4_addHand_22 : decode cX4_addHand 22 = .ok (.aload_n 0, 1) := by decide +kernel
theorem dX4_addHand_23 : decode cX4_addHand 23 = .ok (.getfield 9, 3) := by decide +kernel
theorem dX4_addHand_26 : decode cX4_addHand 26 = .ok (.iconst 1, 1) := by decide +kernel
theorem dX4_addHand_27 : decode cX4_addHand 27 = .ok (.isub, 1) := by decide +kernel
theorem dX4_addHand_28 : decode cX4_addHand 28 = .ok (.ireturn, 1) := by decide +kernel
theorem dX4_addShift_0 : decode cX4_addShift 0 = .ok (.aload_n 0, 1) := by decide +kernel
theorem dX4_addShift_1 : decode cX4_addShift 1 = .ok (.getfield 18, 3) := by decide +kernel
theorem dX4_addShift_4 : decode cX4_addShift 4 = .ok (.invokevirtual 32, 3) := by decide +kernel
theorem dX4_addShift_7 : decode cX4_addShift 7 = .ok (.bipush 40, 2) := by decide +kernel
theorem dX4_addShift_9 : decode cX4_addShift 9 = .ok (.if_icmp .lt 6, 3) := by decide +kernel
theorem dX4_addShift_12 : decode cX4_addShift 12 = .ok (.bipush (-2), 2) := by decide +kernel
theorem dX4_addShift_14 : decode cX4_addShift 14 = .ok (.ireturn, 1) := by decide +kernel
theorem dX4_addShift_15 : decode cX4_addShift 15 = .ok (.aload_n 0, 1) := by decide +kernel
theorem dX4_addShift_16 : decode cX4_addShift 16 = .ok (.getfield 18, 3) := by decide +kernel
theorem dX4_addShift_19 : decode cX4_addShift 19 = .ok (.aload_n 1, 1) := by decide +kernel
theorem dX4_addShift_20 : decode cX4_addShift 20 = .ok (.invokevirtual 36, 3) := by decide +kernel
theorem dX4_addShift_23 : decode cX4_addShift 23 = .ok (.pop, 1) := by decide +kernel
theorem dX4_addShift_24 : decode cX4_addShift 24 = .ok (.aload_n 0, 1) := by decide +kernel
theorem dX4_addShift_25 : decode cX4_addShift 25 = .ok (.getfield 18, 3) := by decide +kernel
theorem dX4_addShift_28 : decode cX4_addShift 28 = .ok (.invokevirtual 32, 3) := by decide +kernel
theorem dX4_addShift_31 : decode cX4_addShift 31 = .ok (.iconst 1, 1) := by decide +kernel
theorem dX4_addShift_32 : decode cX4_addShift 32 = .ok (.isub, 1) := by decide +kernel
theorem dX4_addShift_33 : decode cX4_addShift 33 = .ok (.ireturn, 1) := by decide +kernel
theorem dX4_addSwap_0 : decode cX4_addSwap 0 = .ok (.aload_n 0, 1) := by decide +kernel
theorem dX4_addSwap_1 : decode cX4_addSwap 1 = .ok (.getfield 22, 3) := by decide +kernel
theorem dX4_addSwap_4 : decode cX4_addSwap 4 = .ok (.invokevirtual 32, 3) := by decide +kernel
theorem dX4_addSwap_7 : decode cX4_addSwap 7 = .ok (.bipush 20, 2) := by decide +kernel
theorem dX4_addSwap_9 : decode cX4_addSwap 9 = .ok (.if_icmp .lt 6, 3) := by decide +kernel
theorem dX4_addSwap_12 : decode cX4_addSwap 12 = .ok (.bipush (-2), 2) := by decide +kernel
theorem dX4_addSwap_14 : decode cX4_addSwap 14 = .ok (.ireturn, 1) := by decide +kernel
theorem dX4_addSwap_15 : decode cX4_addSwap 15 = .ok (.aload_n 0, 1) := by decide +kernel
theorem dX4_addSwap_16 : decode cX4_addSwap 16 = .ok (.getfield 22, 3) := by decide +kernel
theorem dX4_addSwap_19 : decode cX4_addSwap 19 = .ok (.aload_n 1, 1) := by decide +kernel
theorem dX4_addSwap_20 : decode cX4_addSwap 20 = .ok (.invokevirtual 36, 3) := by decide +kernel
theorem dX4_addSwap_23 : decode cX4_addSwap 23 = .ok (.pop, 1) := by decide +kernel
theorem dX4_addSwap_24 : decode cX4_addSwap 24 = .ok (.aload_n 0, 1) := by decide +kernel
theorem dX4_addSwap_25 : decode cX4_addSwap 25 = .ok (.getfield 22, 3) := by decide +kernel
theorem dX4_addSwap_28 : decode cX4_addSwap 28 = .ok (.invokevirtual 32, 3) := by decide +kernel
theorem dX4_addSwap_31 : decode cX4_addSwap 31 = .ok (.iconst 1, 1) := by decide +kernel
theorem dX4_addSwap_32 : decode cX4_addSwap 32 = .ok (.isub, 1) := by decide +kernel
theorem dX4_addSwap_33 : decode cX4_addSwap 33 = .ok (.ireturn, 1) := by decide +kernel
theorem dX4_fillRow_0 : decode cX4_fillRow 0 = .ok (.aload_n 0, 1) := by decide +kernel
theorem dX4_fillRow_1 : decode cX4_fillRow 1 = .ok (.iload_n 1, 1) := by decide +kernel
theorem dX4_fillRow_2 : decode cX4_fillRow 2 = .ok (.invokevirtual 40, 3) := by decide +kernel
theorem dX4_fillRow_5 : decode cX4_fillRow 5 = .ok (.aload_n 0, 1) := by decide +kernel
theorem dX4_fillRow_6 : decode cX4_fillRow 6 = .ok (.iload_n 1, 1) := by decide +kernel
theorem dX4_fillRow_7 : decode cX4_fillRow 7 = .ok (.invokevirtual 44, 3) := by decide +kernel
theorem dX4_fillRow_10 : decode cX4_fillRow 10 = .ok (.iconst 0, 1) := by decide +kernel
theorem dX4_fillRow_11 : decode cX4_fillRow 11 = .ok (.istore_n 3, 1) := by decide +kernel
theorem dX4_fillRow_12 : decode cX4_fillRow 12 = .ok (.iconst 0, 1) := by decide +kernel
theorem dX4_fillRow_13 : decode cX4_fillRow 13 = .ok (.istore 4, 2) := by decide +kernel
theorem dX4_fillRow_15 : decode cX4_fillRow 15 = .ok (.iload 4, 2) := by decide +kernel
theorem dX4_fillRow_17 : decode cX4_fillRow 17 = .ok (.bipush 9, 2) := by decide +kernel
theorem dX4_fillRow_19 : decode cX4_fillRow 19 = .ok (.if_icmp .gt 54, 3) := by decide +kernel
theorem dX4_fillRow_22 : decode cX4_fillRow 22 = .ok (.iconst 0, 1) := by decide +kernel
theorem dX4_fillRow_23 : decode cX4_fillRow 23 = .ok (.istore 5, 2) := by decide +kernel
theorem dX4_fillRow_25 : decode cX4_fillRow 25 = .ok (.iload 5, 2) := by decide +kernel
theorem dX4_fillRow_27 : decode cX4_fillRow 27 = .ok (.aload_n 0, 1) := by decide +kernel
theorem dX4_fillRow_28 : decode cX4_fillRow 28 = .ok (.getfield 29, 3) := by decide +kernel
theorem dX4_fillRow_31 : decode cX4_fillRow 31 = .ok (.arraylength, 1) := by decide +kernel
theorem dX4_fillRow_32 : decode cX4_fillRow 32 = .ok (.if_icmp .ge 35, 3) := by decide +kernel
theorem dX4_fillRow_35 : decode cX4_fillRow 35 = .ok (.aload_n 0, 1) := by decide +kernel
theorem dX4_fillRow_36 : decode cX4_fillRow 36 = .ok (.getfield 29, 3) := by decide +kernel
theorem dX4_fillRow_39 : decode cX4_fillRow 39 = .ok (.iload 5, 2) := by decide +kernel
theorem dX4_fillRow_41 : decode cX4_fillRow 41 = .ok (.iaload, 1) := by decide +kernel
theorem dX4_fillRow_42 : decode cX4_fillRow 42 = .ok (.iload 4, 2) := by decide +kernel
theorem dX4_fillRow_44 : decode cX4_fillRow 44 = .ok (.if_icmp .ne 17, 3) := by decide +kernel
theorem dX4_fillRow_47 : decode cX4_fillRow 47 = .ok (.iload_n 3, 1) := by decide +kernel
theorem dX4_fillRow_48 : decode cX4_fillRow 48 = .ok (.aload_n 2, 1) := by decide +kernel
theorem dX4_fillRow_49 : decode cX4_fillRow 49 = .ok (.arraylength, 1) := by decide +kernel
theorem dX4_fillRow_50 : decode cX4_fillRow 50 = .ok (.if_icmp .ge 11, 3) := by decide +kernel
theorem dX4_fillRow_53 : decode cX4_fillRow 53 = .ok (.aload_n 2, 1) := by decide +kernel
theorem dX4_fillRow_54 : decode cX4_fillRow 54 = .ok (.iload_n 3, 1) := by decide +kernel
theorem dX4_fillRow_55 : decode cX4_fillRow 55 = .ok (.iload 5, 2) := by decide +kernel
theorem dX4_fillRow_57 : decode cX4_fillRow 57 = .ok (.iastore, 1) := by decide +kernel
theorem dX4_fillRow_58 : decode cX4_fillRow 58 = .ok (.iinc 3 1, 3) := by decide +kernel
theorem dX4_fillRow_61 : decode cX4_fillRow 61 = .ok (.iinc 5 1, 3) := by decide +kernel
theorem dX4_fillRow_64 : decode cX4_fillRow 64 = .ok (.goto (-39), 3) := by decide +kernel
theorem dX4_fillRow_67 : decode cX4_fillRow 67 = .ok (.iinc 4 1, 3) := by decide +kernel
theorem dX4_fillRow_70 : decode cX4_fillRow 70 = .ok (.goto (-55), 3) := by decide +kernel
theorem dX4_fillRow_73 : decode cX4_fillRow 73 = .ok (.iload_n 3, 1) := by decide +kernel
theorem dX4_fillRow_74 : decode cX4_fillRow 74 = .ok (.ireturn, 1) := by decide +kernel
theorem dX4_stand_0 : decode cX4_stand 0 = .ok (.iconst 0, 1) := by decide +kernel
theorem dX4_stand_1 : decode cX4_stand 1 = .ok (.istore_n 2, 1) := by decide +kernel
theorem dX4_stand_2 : decode cX4_stand 2 = .ok (.iload_n 2, 1) := by decide +kernel
theorem dX4_stand_3 : decode cX4_stand 3 = .ok (.aload_n 0, 1) := by decide +kernel
theorem dX4_stand_4 : decode cX4_stand 4 = .ok (.getfield 25, 3) := by decide +kernel
theorem dX4_stand_7 : decode cX4_stand 7 = .ok (.arraylength, 1) := by decide +kernel
theorem dX4_stand_8 : decode cX4_stand 8 = .ok (.if_icmp .ge 16, 3) := by decide +kernel
theorem dX4_stand_11 : decode cX4_stand 11 = .ok (.aload_n 0, 1) := by decide +kernel
theorem dX4_stand_12 : decode cX4_stand 12 = .ok (.getfield 25, 3) := by decide +kernel
theorem dX4_stand_15 : decode cX4_stand 15 = .ok (.iload_n 2, 1) := by decide +kernel
theorem dX4_stand_16 : decode cX4_stand 16 = .ok (.iload_n 2, 1) := by decide +kernel
theorem dX4_stand_17 : decode cX4_stand 17 = .ok (.iastore, 1) := by decide +kernel
theorem dX4_stand_18 : decode cX4_stand 18 = .ok (.iinc 2 1, 3) := by decide +kernel
theorem dX4_stand_21 : decode cX4_stand 21 = .ok (.goto (-19), 3) := by decide +kernel
theorem dX4_stand_24 : decode cX4_stand 24 = .ok (.iconst 0, 1) := by decide +kernel
theorem dX4_stand_25 : decode cX4_stand 25 = .ok (.istore_n 2, 1) := by decide +kernel
theorem dX4_stand_26 : decode cX4_stand 26 = .ok (.iload_n 2, 1) := by decide +kernel
theorem dX4_stand_27 : decode cX4_stand 27 = .ok (.aload_n 0, 1) := by decide +kernel
theorem dX4_stand_28 : decode cX4_stand 28 = .ok (.getfield 22, 3) := by decide +kernel
theorem dX4_stand_31 : decode cX4_stand 31 = .ok (.invokevirtual 32, 3) := by decide +kernel
theorem dX4_stand_34 : decode cX4_stand 34 = .ok (.if_icmp .ge 41, 3) := by decide +kernel
theorem dX4_stand_37 : decode cX4_stand 37 = .ok (.aload_n 0, 1) := by decide +kernel
theorem dX4_stand_38 : decode cX4_stand 38 = .ok (.getfield 22, 3) := by decide +kernel
theorem dX4_stand_41 : decode cX4_stand 41 = .ok (.iload_n 2, 1) := by decide +kernel
theorem dX4_stand_42 : decode cX4_stand 42 = .ok (.invokevirtual 47, 3) := by decide +kernel
theorem dX4_stand_45 : decode cX4_stand 45 = .ok (.checkcast 51, 3) := by decide +kernel
theorem dX4_stand_48 : decode cX4_stand 48 = .ok (.astore_n 3, 1) := by decide +kernel
theorem dX4_stand_49 : decode cX4_stand 49 = .ok (.aload_n 3, 1) := by decide +kernel
theorem dX4_stand_50 : decode cX4_stand 50 = .ok (.iload_n 1, 1) := by decide +kernel
theorem dX4_stand_51 : decode cX4_stand 51 = .ok (.invokevirtual 53, 3) := by decide +kernel
theorem dX4_stand_54 : decode cX4_stand 54 = .ok (.ifCond .eq 15, 3) := by decide +kernel
theorem dX4_stand_57 : decode cX4_stand 57 = .ok (.aload_n 0, 1) := by decide +kernel
theorem dX4_stand_58 : decode cX4_stand 58 = .ok (.aload_n 3, 1) := by decide +kernel
theorem dX4_stand_59 : decode cX4_stand 59 = .ok (.getfield 57, 3) := by decide +kernel
theorem dX4_stand_62 : decode cX4_stand 62 = .ok (.aload_n 3, 1) := by decide +kernel
theorem dX4_stand_63 : decode cX4_stand 63 = .ok (.getfield 60, 3) := by decide +kernel
theorem dX4_stand_66 : decode cX4_stand 66 = .ok (.invokevirtual 63, 3) := by decide +kernel
theorem dX4_stand_69 : decode cX4_stand 69 = .ok (.iinc 2 1, 3) := by decide +kernel
theorem dX4_stand_72 : decode cX4_stand 72 = .ok (.goto (-46), 3) := by decide +kernel
theorem dX4_stand_75 : decode cX4_stand 75 = .ok (.return_, 1) := by decide +kernel
theorem dX4_exchange_0 : decode cX4_exchange 0 = .ok (.aload_n 0, 1) := by decide +kernel
theorem dX4_exchange_1 : decode cX4_exchange 1 = .ok (.iload_n 1, 1) := by decide +kernel
theorem dX4_exchange_2 : decode cX4_exchange 2 = .ok (.invokevirtual 67, 3) := by decide +kernel
theorem dX4_exchange_5 : decode cX4_exchange 5 = .ok (.ifCond .eq 55, 3) := by decide +kernel
theorem dX4_exchange_8 : decode cX4_exchange 8 = .ok (.iload_n 1, 1) := by decide +kernel
theorem dX4_exchange_9 : decode cX4_exchange 9 = .ok (.aload_n 0, 1) := by decide +kernel
theorem dX4_exchange_10 : decode cX4_exchange 10 = .ok (.getfield 25, 3) := by decide +kernel
theorem dX4_exchange_13 : decode cX4_exchange 13 = .ok (.arraylength, 1) := by decide +kernel
theorem dX4_exchange_14 : decode cX4_exchange 14 = .ok (.if_icmp .ge 46, 3) := by decide +kernel
theorem dX4_exchange_17 : decode cX4_exchange 17 = .ok (.aload_n 0, 1) := by decide +kernel
theorem dX4_exchange_18 : decode cX4_exchange 18 = .ok (.iload_n 2, 1) := by decide +kernel
theorem dX4_exchange_19 : decode cX4_exchange 19 = .ok (.invokevirtual 67, 3) := by decide +kernel
theorem dX4_exchange_22 : decode cX4_exchange 22 = .ok (.ifCond .eq 38, 3) := by decide +kernel
theorem dX4_exchange_25 : decode cX4_exchange 25 = .ok (.iload_n 2, 1) := by decide +kernel
theorem dX4_exchange_26 : decode cX4_exchange 26 = .ok (.aload_n 0, 1) := by decide +kernel
theorem dX4_exchange_27 : decode cX4_exchange 27 = .ok (.getfield 25, 3) := by decide +kernel
theorem dX4_exchange_30 : decode cX4_exchange 30 = .ok (.arraylength, 1) := by decide +kernel
theorem dX4_exchange_31 : decode cX4_exchange 31 = .ok (.if_icmp .ge 29, 3) := by decide +kernel
theorem dX4_exchange_34 : decode cX4_exchange 34 = .ok (.aload_n 0, 1) := by decide +kernel
theorem dX4_exchange_35 : decode cX4_exchange 35 = .ok (.getfield 25, 3) := by decide +kernel
theorem dX4_exchange_38 : decode cX4_exchange 38 = .ok (.iload_n 1, 1) := by decide +kernel
theorem dX4_exchange_39 : decode cX4_exchange 39 = .ok (.iaload, 1) := by decide +kernel
theorem dX4_exchange_40 : decode cX4_exchange 40 = .ok (.istore_n 3, 1) := by decide +kernel
theorem dX4_exchange_41 : decode cX4_exchange 41 = .ok (.aload_n 0, 1) := by decide +kernel
theorem dX4_exchange_42 : decode cX4_exchange 42 = .ok (.getfield 25, 3) := by decide +kernel
theorem dX4_exchange_45 : decode cX4_exchange 45 = .ok (.iload_n 1, 1) := by decide +kernel
theorem dX4_exchange_46 : decode cX4_exchange 46 = .ok (.aload_n 0, 1) := by decide +kernel
theorem dX4_exchange_47 : decode cX4_exchange 47 = .ok (.getfield 25, 3) := by decide +kernel
theorem dX4_exchange_50 : decode cX4_exchange 50 = .ok (.iload_n 2, 1) := by decide +kernel
theorem dX4_exchange_51 : decode cX4_exchange 51 = .ok (.iaload, 1) := by decide +kernel
theorem dX4_exchange_52 : decode cX4_exchange 52 = .ok (.iastore, 1) := by decide +kernel
theorem dX4_exchange_53 : decode cX4_exchange 53 = .ok (.aload_n 0, 1) := by decide +kernel
theorem dX4_exchange_54 : decode cX4_exchange 54 = .ok (.getfield 25, 3) := by decide +kernel
theorem dX4_exchange_57 : decode cX4_exchange 57 = .ok (.iload_n 2, 1) := by decide +kernel
theorem dX4_exchange_58 : decode cX4_exchange 58 = .ok (.iload_n 3, 1) := by decide +kernel
theorem dX4_exchange_59 : decode cX4_exchange 59 = .ok (.iastore, 1) := by decide +kernel
theorem dX4_exchange_60 : decode cX4_exchange 60 = .ok (.return_, 1) := by decide +kernel
theorem dX4_findSteps_0 : decode cX4_findSteps 0 = .ok (.aload_n 0, 1) := by decide +kernel
theorem dX4_findSteps_1 : decode cX4_findSteps 1 = .ok (.getfield 29, 3) := by decide +kernel
theorem dX4_findSteps_4 : decode cX4_findSteps 4 = .ok (.bipush 10, 2) := by decide +kernel
theorem dX4_findSteps_6 : decode cX4_findSteps 6 = .ok (.invokestatic 70, 3) := by decide +kernel
theorem dX4_findSteps_9 : decode cX4_findSteps 9 = .ok (.iconst 0, 1) := by decide +kernel
theorem dX4_findSteps_10 : decode cX4_findSteps 10 = .ok (.istore_n 2, 1) := by decide +kernel
theorem dX4_findSteps_11 : decode cX4_findSteps 11 = .ok (.iload_n 2, 1) := by decide +kernel
theorem dX4_findSteps_12 : decode cX4_findSteps 12 = .ok (.aload_n 0, 1) := by decide +kernel
theorem dX4_findSteps_13 : decode cX4_findSteps 13 = .ok (.getfield 18, 3) := by decide +kernel
theorem dX4_findSteps_16 : decode cX4_findSteps 16 = .ok (.invokevirtual 32, 3) := by decide +kernel
theorem dX4_findSteps_19 : decode cX4_findSteps 19 = .ok (.if_icmp .ge 34, 3) := by decide +kernel
theorem dX4_findSteps_22 : decode cX4_findSteps 22 = .ok (.aload_n 0, 1) := by decide +kernel
theorem dX4_findSteps_23 : decode cX4_findSteps 23 = .ok (.getfield 18, 3) := by decide +kernel
theorem dX4_findSteps_26 : decode cX4_findSteps 26 = .ok (.iload_n 2, 1) := by decide +kernel
theorem dX4_findSteps_27 : decode cX4_findSteps 27 = .ok (.invokevirtual 47, 3) := by decide +kernel
theorem dX4_findSteps_30 : decode cX4_findSteps 30 = .ok (.checkcast 76, 3) := by decide +kernel
theorem dX4_findSteps_33 : decode cX4_findSteps 33 = .ok (.astore_n 3, 1) := by decide +kernel
theorem dX4_findSteps_34 : decode cX4_findSteps 34 = .ok (.aload_n 3, 1) := by decide +kernel
theorem dX4_findSteps_35 : decode cX4_findSteps 35 = .ok (.iload_n 1, 1) := by decide +kernel
theorem dX4_findSteps_36 : decode cX4_findSteps 36 = .ok (.invokevirtual 78, 3) := by decide +kernel
theorem dX4_findSteps_39 : decode cX4_findSteps 39 = .ok (.ifCond .eq 8, 3) := by decide +kernel
theorem dX4_findSteps_42 : decode cX4_findSteps 42 = .ok (.aload_n 0, 1) := by decide +kernel
theorem dX4_findSteps_43 : decode cX4_findSteps 43 = .ok (.aload_n 3, 1) := by decide +kernel
theorem dX4_findSteps_44 : decode cX4_findSteps 44 = .ok (.invokevirtual 79, 3) := by decide +kernel
theorem dX4_findSteps_47 : decode cX4_findSteps 47 = .ok (.iinc 2 1, 3) := by decide +kernel
theorem dX4_findSteps_50 : decode cX4_findSteps 50 = .ok (.goto (-39), 3) := by decide +kernel
theorem dX4_findSteps_53 : decode cX4_findSteps 53 = .ok (.return_, 1) := by decide +kernel
theorem dX4_wakeAt_0 : decode cX4_wakeAt 0 = .ok (.iconst 0, 1) := by decide +kernel
theorem dX4_wakeAt_1 : decode cX4_wakeAt 1 = .ok (.istore_n 2, 1) := by decide +kernel
theorem dX4_wakeAt_2 : decode cX4_wakeAt 2 = .ok (.iload_n 2, 1) := by decide +kernel
theorem dX4_wakeAt_3 : decode cX4_wakeAt 3 = .ok (.aload_n 0, 1) := by decide +kernel
theorem dX4_wakeAt_4 : decode cX4_wakeAt 4 = .ok (.getfield 29, 3) := by decide +kernel
theorem dX4_wakeAt_7 : decode cX4_wakeAt 7 = .ok (.arraylength, 1) := by decide +kernel
theorem dX4_wakeAt_8 : decode cX4_wakeAt 8 = .ok (.if_icmp .ge 50, 3) := by decide +kernel
theorem dX4_wakeAt_11 : decode cX4_wakeAt 11 = .ok (.iload_n 2, 1) := by decide +kernel
theorem dX4_wakeAt_12 : decode cX4_wakeAt 12 = .ok (.aload_n 0, 1) := by decide +kernel
theorem dX4_wakeAt_13 : decode cX4_wakeAt 13 = .ok (.getfield 25, 3) := by decide +kernel
theorem dX4_wakeAt_16 : decode cX4_wakeAt 16 = .ok (.arraylength, 1) := by decide +kernel
theorem dX4_wakeAt_17 : decode cX4_wakeAt 17 = .ok (.if_icmp .ge 41, 3) := by decide +kernel
theorem dX4_wakeAt_20 : decode cX4_wakeAt 20 = .ok (.aload_n 0, 1) := by decide +kernel
theorem dX4_wakeAt_21 : decode cX4_wakeAt 21 = .ok (.getfield 25, 3) := by decide +kernel
theorem dX4_wakeAt_24 : decode cX4_wakeAt 24 = .ok (.iload_n 2, 1) := by decide +kernel
theorem dX4_wakeAt_25 : decode cX4_wakeAt 25 = .ok (.iaload, 1) := by decide +kernel
theorem dX4_wakeAt_26 : decode cX4_wakeAt 26 = .ok (.aload_n 1, 1) := by decide +kernel
theorem dX4_wakeAt_27 : decode cX4_wakeAt 27 = .ok (.getfield 83, 3) := by decide +kernel
theorem dX4_wakeAt_30 : decode cX4_wakeAt 30 = .ok (.if_icmp .ne 22, 3) := by decide +kernel
theorem dX4_wakeAt_33 : decode cX4_wakeAt 33 = .ok (.aload_n 0, 1) := by decide +kernel
theorem dX4_wakeAt_34 : decode cX4_wakeAt 34 = .ok (.getfield 29, 3) := by decide +kernel
theorem dX4_wakeAt_37 : decode cX4_wakeAt 37 = .ok (.iload_n 2, 1) := by decide +kernel
theorem dX4_wakeAt_38 : decode cX4_wakeAt 38 = .ok (.aload_n 0, 1) := by decide +kernel
theorem dX4_wakeAt_39 : decode cX4_wakeAt 39 = .ok (.getfield 29, 3) := by decide +kernel
theorem dX4_wakeAt_42 : decode cX4_wakeAt 42 = .ok (.iload_n 2, 1) := by decide +kernel
theorem dX4_wakeAt_43 : decode cX4_wakeAt 43 = .ok (.iaload, 1) := by decide +kernel
theorem dX4_wakeAt_44 : decode cX4_wakeAt 44 = .ok (.aload_n 1, 1) := by decide +kernel
theorem dX4_wakeAt_45 : decode cX4_wakeAt 45 = .ok (.getfield 86, 3) := by decide +kernel
theorem dX4_wakeAt_48 : decode cX4_wakeAt 48 = .ok (.invokestatic 89, 3) := by decide +kernel
theorem dX4_wakeAt_51 : decode cX4_wakeAt 51 = .ok (.iastore, 1) := by decide +kernel
theorem dX4_wakeAt_52 : decode cX4_wakeAt 52 = .ok (.iinc 2 1, 3) := by decide +kernel
theorem dX4_wakeAt_55 : decode cX4_wakeAt 55 = .ok (.goto (-53), 3) := by decide +kernel
theorem dX4_wakeAt_58 : decode cX4_wakeAt 58 = .ok (.return_, 1) := by decide +kernel
theorem dX5_init_0 : decode cX5_init 0 = .ok (.aload_n 0, 1) := by decide +kernel
theorem dX5_init_1 : decode cX5_init 1 = .ok (.invokespecial 3, 3) := by decide +kernel
theorem dX5_init_4 : decode cX5_init 4 = .ok (.aload_n 0, 1) := by decide +kernel
theorem dX5_init_5 : decode cX5_init 5 = .ok (.bipush 16, 2) := by decide +kernel
theorem dX5_init_7 : decode cX5_init 7 = .ok (.anewarray 9, 3) := by decide +kernel
theorem dX5_init_10 : decode cX5_init 10 = .ok (.putfield 11, 3) := by decide +kernel
theorem dX5_init_13 : decode cX5_init 13 = .ok (.aload_n 0, 1) := by decide +kernel
theorem dX5_init_14 : decode cX5_init 14 = .ok (.iconst 3, 1) := by decide +kernel
theorem dX5_init_15 : decode cX5_init 15 = .ok (.newarray .int, 2) := by decide +kernel
theorem dX5_init_17 : decode cX5_init 17 = .ok (.putfield 17, 3) := by decide +kernel
theorem dX5_init_20 : decode cX5_init 20 = .ok (.aload_n 0, 1) := by decide +kernel
theorem dX5_init_21 : decode cX5_init 21 = .ok (.bipush 11, 2) := by decide +kernel
theorem dX5_init_23 : decode cX5_init 23 = .ok (.newarray .int, 2) := by decide +kernel
theorem dX5_init_25 : decode cX5_init 25 = .ok (.putfield 21, 3) := by decide +kernel
theorem dX5_init_28 : decode cX5_init 28 = .ok (.aload_n 0, 1) := by decide +kernel
theorem dX5_init_29 : decode cX5_init 29 = .ok (.bipush 20, 2) := by decide +kernel
theorem dX5_init_31 : decode cX5_init 31 = .ok (.newarray .long, 2) := by decide +kernel
theorem dX5_init_33 : decode cX5_init 33 = .ok (.putfield 24, 3) := by decide +kernel
theorem dX5_init_36 : decode cX5_init 36 = .ok (.aload_n 0, 1) := by decide +kernel
theorem dX5_init_37 : decode cX5_init 37 = .ok (.iload_n 1, 1) := by decide +kernel
theorem dX5_init_38 : decode cX5_init 38 = .ok (.putfield 28, 3) := by decide +kernel
theorem dX5_init_41 : decode cX5_init 41 = .ok (.aload_n 0, 1) := by decide +kernel
theorem dX5_init_42 : decode cX5_init 42 = .ok (.iload_n 2, 1) := by decide +kernel
theorem dX5_init_43 : decode cX5_init 43 = .ok (.bipush 100, 2) := by decide +kernel
theorem dX5_init_45 : decode cX5_init 45 = .ok (.irem, 1) := by decide +kernel
theorem dX5_init_46 : decode cX5_init 46 = .ok (.putfield 32, 3) := by decide +kernel
theorem dX5_init_49 : decode cX5_init 49 = .ok (.aload_n 0, 1) := by decide +kernel
theorem dX5_init_50 : decode cX5_init 50 = .ok (.iload_n 2, 1) := by decide +kernel
theorem dX5_init_51 : decode cX5_init 51 = .ok (.bipush 100, 2) := by decide +kernel
theorem dX5_init_53 : decode cX5_init 53 = .ok (.idiv, 1) := by decide +kernel
theorem dX5_init_54 : decode cX5_init 54 = .ok (.putfield 35, 3) := by decide +kernel
theorem dX5_init_57 : decode cX5_init 57 = .ok (.aload_n 0, 1) := by decide +kernel
theorem dX5_init_58 : decode cX5_init 58 = .ok (.lload_n 3, 1) := by decide +kernel
theorem dX5_init_59 : decode cX5_init 59 = .ok (.putfield 38, 3) := by decide +kernel
theorem dX5_init_62 : decode cX5_init 62 = .ok (.aload_n 0, 1) := by decide +kernel
theorem dX5_init_63 : decode cX5_init 63 = .ok (.iload 5, 2) := by decide +kernel
theorem dX5_init_65 : decode cX5_init 65 = .ok (.putfield 42, 3) := by decide +kernel
theorem dX5_init_68 : decode cX5_init 68 = .ok (.aload_n 0, 1) := by decide +kernel
theorem dX5_init_69 : decode cX5_init 69 = .ok (.iload 6, 2) := by decide +kernel
theorem dX5_init_71 : decode cX5_init 71 = .ok (.bipush 100, 2) := by decide +kernel
theorem dX5_init_73 : decode cX5_init 73 = .ok (.irem, 1) := by decide +kernel
theorem dX5_init_74 : decode cX5_init 74 = .ok (.putfield 45, 3) := by decide +kernel
theorem dX5_init_77 : decode cX5_init 77 = .ok (.aload_n 0, 1) := by decide +kernel
theorem dX5_init_78 : decode cX5_init 78 = .ok (.iload 6, 2) := by decide +kernel
theorem dX5_init_80 : decode cX5_init 80 = .ok (.bipush 100, 2) := by decide +kernel
theorem dX5_init_82 : decode cX5_init 82 = .ok (.idiv, 1) := by decide +kernel
theorem dX5_init_83 : decode cX5_init 83 = .ok (.bipush 100, 2) := by decide +kernel
theorem dX5_init_85 : decode cX5_init 85 = .ok (.irem, 1) := by decide +kernel
theorem dX5_init_86 : decode cX5_init 86 = .ok (.putfield 48, 3) := by decide +kernel
theorem dX5_init_89 : decode cX5_init 89 = .ok (.aload_n 0, 1) := by decide +kernel
theorem dX5_init_90 : decode cX5_init 90 = .ok (.iload 6, 2) := by decide +kernel
theorem dX5_init_92 : decode cX5_init 92 = .ok (.sipush 10000, 3) := by decide +kernel
theorem dX5_init_95 : decode cX5_init 95 = .ok (.idiv, 1) := by decide +kernel
theorem dX5_init_96 : decode cX5_init 96 = .ok (.putfield 51, 3) := by decide +kernel
theorem dX5_init_99 : decode cX5_init 99 = .ok (.aload_n 0, 1) := by decide +kernel
theorem dX5_init_100 : decode cX5_init 100 = .ok (.iload 7, 2) := by decide +kernel
theorem dX5_init_102 : decode cX5_init 102 = .ok (.putfield 54, 3) := by decide +kernel
theorem dX5_init_105 : decode cX5_init 105 = .ok (.iconst 0, 1) := by decide +kernel
theorem dX5_init_106 : decode cX5_init 106 = .ok (.istore 8, 2) := by decide +kernel
theorem dX5_init_108 : decode cX5_init 108 = .ok (.iload 8, 2) := by decide +kernel
theorem dX5_init_110 : decode cX5_init 110 = .ok (.bipush 16, 2) := by decide +kernel
theorem dX5_init_112 : decode cX5_init 112 = .ok (.if_icmp .ge 23, 3) := by decide +kernel
theorem dX5_init_115 : decode cX5_init 115 = .ok (.aload_n 0, 1) := by decide +kernel
theorem dX5_init_116 : decode cX5_init 116 = .ok (.getfield 11, 3) := by decide +kernel
theorem dX5_init_119 : decode cX5_init 119 = .ok (.iload 8, 2) := by decide +kernel
theorem dX5_init_121 : decode cX5_init 121 = .ok (.new 9, 3) := by decide +kernel
theorem dX5_init_124 : decode cX5_init 124 = .ok (.dup, 1) := by decide +kernel
theorem dX5_init_125 : decode cX5_init 125 = .ok (.invokespecial 57, 3) := by decide +kernel
theorem dX5_init_128 : decode cX5_init 128 = .ok (.aastore, 1) := by decide +kernel
theorem dX5_init_129 : decode cX5_init 129 = .ok (.iinc 8 1, 3) := by decide +kernel
theorem dX5_init_132 : decode cX5_init 132 = .ok (.goto (-24), 3) := by decide +kernel
theorem dX5_init_135 : decode cX5_init 135 = .ok (.return_, 1) := by decide +kernel
theorem dX5_watchAt_0 : decode cX5_watchAt 0 = .ok (.iload_n 1, 1) := by decide +kernel
theorem dX5_watchAt_1 : decode cX5_watchAt 1 = .ok (.ifCond .lt 21, 3) := by decide +kernel
theorem dX5_watchAt_4 : decode cX5_watchAt 4 = .ok (.iload_n 1, 1) := by decide +kernel
theorem dX5_watchAt_5 : decode cX5_watchAt 5 = .ok (.aload_n 0, 1) := by decide +kernel
theorem dX5_watchAt_6 : decode cX5_watchAt 6 = .ok (.getfield 11, 3) := by decide +kernel
theorem dX5_watchAt_9 : decode cX5_watchAt 9 = .ok (.arraylength, 1) := by decide +kernel
theorem dX5_watchAt_10 : decode cX5_watchAt 10 = .ok (.if_icmp .ge 12, 3) := by decide +kernel
theorem dX5_watchAt_13 : decode cX5_watchAt 13 = .ok (.aload_n 0, 1) := by decide +kernel
theorem dX5_watchAt_14 : decode cX5_watchAt 14 = .ok (.getfield 11, 3) := by decide +kernel
theorem dX5_watchAt_17 : decode cX5_watchAt 17 = .ok (.iload_n 1, 1) := by decide +kernel
theorem dX5_watchAt_18 : decode cX5_watchAt 18 = .ok (.aaload, 1) := by decide +kernel
theorem dX5_watchAt_19 : decode cX5_watchAt 19 = .ok (.goto 4, 3) := by decide +kernel
theorem dX5_watchAt_22 : decode cX5_watchAt 22 = .ok (.aconst_null, 1) := by decide +kernel
theorem dX5_watchAt_23 : decode cX5_watchAt 23 = .ok (.areturn, 1) := by decide +kernel
theorem dX5_looksAt_0 : decode cX5_looksAt 0 = .ok (.aload_n 0, 1) := by decide +kernel
theorem dX5_looksAt_1 : decode cX5_looksAt 1 = .ok (.getfield 54, 3) := by decide +kernel
theorem dX5_looksAt_4 : decode cX5_looksAt 4 = .ok (.iconst (-1), 1) := by decide +kernel
theorem dX5_looksAt_5 : decode cX5_looksAt 5 = .ok (.if_icmp .eq 14, 3) := by decide +kernel
theorem dX5_looksAt_8 : decode cX5_looksAt 8 = .ok (.aload_n 0, 1) := by decide +kernel
theorem dX5_looksAt_9 : decode cX5_looksAt 9 = .ok (.getfield 54, 3) := by decide +kernel
theorem dX5_looksAt_12 : decode cX5_looksAt 12 = .ok (.aload_n 1, 1) := by decide +kernel
theorem dX5_looksAt_13 : decode cX5_looksAt 13 = .ok (.getfield 58, 3) := by decide +kernel
theorem dX5_looksAt_16 : decode cX5_looksAt 16 = .ok (.if_icmp .ne 7, 3) := by decide +kernel
theorem dX5_looksAt_19 : decode cX5_looksAt 19 = .ok (.iconst 1, 1) := by decide +kernel
theorem dX5_looksAt_20 : decode cX5_looksAt 20 = .ok (.goto 4, 3) := by decide +kernel
theorem dX5_looksAt_23 : decode cX5_looksAt 23 = .ok (.iconst 0, 1) := by decide +kernel
theorem dX5_looksAt_24 : decode cX5_looksAt 24 = .ok (.ireturn, 1) := by decide +kernel
theorem dX5_addHolder_0 : decode cX5_addHolder 0 = .ok (.iload_n 2, 1) := by decide +kernel
theorem dX5_addHolder_1 : decode cX5_addHolder 1 = .ok (.ifCond .lt 24, 3) := by decide +kernel
theorem dX5_addHolder_4 : decode cX5_addHolder 4 = .ok (.iload_n 2, 1) := by decide +kernel
theorem dX5_addHolder_5 : decode cX5_addHolder 5 = .ok (.aload_n 0, 1) := by decide +kernel
theorem dX5_addHolder_6 : decode cX5_addHolder 6 = .ok (.getfield 17, 3) := by decide +kernel
theorem dX5_addHolder_9 : decode cX5_addHolder 9 = .ok (.arraylength, 1) := by decide +kernel
theorem dX5_addHolder_10 : decode cX5_addHolder 10 = .ok (.if_icmp .ge 15, 3) := by decide +kernel
theorem dX5_addHolder_13 : decode cX5_addHolder 13 = .ok (.aload_n 0, 1) := by decide +kernel
theorem dX5_addHolder_14 : decode cX5_addHolder 14 = .ok (.getfield 17, 3) := by decide +kernel
theorem dX5_addHolder_17 : decode cX5_addHolder 17 = .ok (.iload_n 2, 1) := by decide +kernel
theorem dX5_addHolder_18 : decode cX5_addHolder 18 = .ok (.dup2, 1) := by decide +kernel
theorem dX5_addHolder_19 : decode cX5_addHolder 19 = .ok (.iaload, 1) := by decide +kernel
theorem dX5_addHolder_20 : decode cX5_addHolder 20 = .ok (.iconst 1, 1) := by decide +kernel
theorem dX5_addHolder_21 : decode cX5_addHolder 21 = .ok (.iload_n 1, 1) := by decide +kernel
theorem dX5_addHolder_22 : decode cX5_addHolder 22 = .ok (.ishl, 1) := by decide +kernel
theorem dX5_addHolder_23 : decode cX5_addHolder 23 = .ok (.ior, 1) := by decide +kernel
theorem dX5_addHolder_24 : decode cX5_addHolder 24 = .ok (.iastore, 1) := by decide +kernel
theorem dX5_addHolder_25 : decode cX5_addHolder 25 = .ok (.return_, 1) := by decide +kernel
theorem dX5_isHeldBy_0 : decode cX5_isHeldBy 0 = .ok (.iload_n 2, 1) := by decide +kernel
theorem dX5_isHeldBy_1 : decode cX5_isHeldBy 1 = .ok (.ifCond .lt 30, 3) := by decide +kernel
theorem dX5_isHeldBy_4 : decode cX5_isHeldBy 4 = .ok (.iload_n 2, 1) := by decide +kernel
theorem dX5_isHeldBy_5 : decode cX5_isHeldBy 5 = .ok (.aload_n 0, 1) := by decide +kernel
theorem dX5_isHeldBy_6 : decode cX5_isHeldBy 6 = .ok (.getfield 17, 3) := by decide +kernel
theorem dX5_isHeldBy_9 : decode cX5_isHeldBy 9 = .ok (.arraylength, 1) := by decide +kernel
theorem dX5_isHeldBy_10 : decode cX5_isHeldBy 10 = .ok (.if_icmp .ge 21, 3) := by decide +kernel
theorem dX5_isHeldBy_13 : decode cX5_isHeldBy 13 = .ok (.aload_n 0, 1) := by decide +kernel
theorem dX5_isHeldBy_14 : decode cX5_isHeldBy 14 = .ok (.getfield 17, 3) := by decide +kernel
theorem dX5_isHeldBy_17 : decode cX5_isHeldBy 17 = .ok (.iload_n 2, 1) := by decide +kernel
theorem dX5_isHeldBy_18 : decode cX5_isHeldBy 18 = .ok (.iaload, 1) := by decide +kernel
theorem dX5_isHeldBy_19 : decode cX5_isHeldBy 19 = .ok (.iload_n 1, 1) := by decide +kernel
theorem dX5_isHeldBy_20 : decode cX5_isHeldBy 20 = .ok (.ishr, 1) := by decide +kernel
theorem dX5_isHeldBy_21 : decode cX5_isHeldBy 21 = .ok (.iconst 1, 1) := by decide +kernel
theorem dX5_isHeldBy_22 : decode cX5_isHeldBy 22 = .ok (.iand, 1) := by decide +kernel
theorem dX5_isHeldBy_23 : decode cX5_isHeldBy 23 = .ok (.iconst 1, 1) := by decide +kernel
theorem dX5_isHeldBy_24 : decode cX5_isHeldBy 24 = .ok (.if_icmp .ne 7, 3) := by decide +kernel
theorem dX5_isHeldBy_27 : decode cX5_isHeldBy 27 = .ok (.iconst 1, 1) := by decide +kernel
theorem dX5_isHeldBy_28 : decode cX5_isHeldBy 28 = .ok (.goto 4, 3) := by decide +kernel
theorem dX5_isHeldBy_31 : decode cX5_isHeldBy 31 = .ok (.iconst 0, 1) := by decide +kernel
theorem dX5_isHeldBy_32 : decode cX5_isHeldBy 32 = .ok (.ireturn, 1) := by decide +kernel
theorem dX5_holders_0 : decode cX5_holders 0 = .ok (.iconst 0, 1) := by decide +kernel
theorem dX5_holders_1 : decode cX5_holders 1 = .ok (.istore_n 1, 1) := by decide +kernel
theorem dX5_holders_2 : decode cX5_holders 2 = .ok (.iconst 0, 1) := by decide +kernel
theorem dX5_holders_3 : decode cX5_holders 3 = .ok (.istore_n 2, 1) := by decide +kernel
theorem dX5_holders_4 : decode cX5_holders 4 = .ok (.iload_n 2, 1) := by decide +kernel
theorem dX5_holders_5 : decode cX5_holders 5 = .ok (.aload_n 0, 1) := by decide +kernel
theorem dX5_holders_6 : decode cX5_holders 6 = .ok (.getfield 17, 3) := by decide +kernel
theorem dX5_holders_9 : decode cX5_holders 9 = .ok (.arraylength, 1) := by decide +kernel
theorem dX5_holders_10 : decode cX5_holders 10 = .ok (.if_icmp .ge 18, 3) := by decide +kernel
theorem dX5_holders_13 : decode cX5_holders 13 = .ok (.iload_n 1, 1) := by decide +kernel
theorem dX5_holders_14 : decode cX5_holders 14 = .ok (.aload_n 0, 1) := by decide +kernel
theorem dX5_holders_15 : decode cX5_holders 15 = .ok (.getfield 17, 3) := by decide +kernel
theorem dX5_holders_18 : decode cX5_holders 18 = .ok (.iload_n 2, 1) := by decide +kernel
theorem dX5_holders_19 : decode cX5_holders 19 = .ok (.iaload, 1) := by decide +kernel
theorem dX5_holders_20 : decode cX5_holders 20 = .ok (.ior, 1) := by decide +kernel
theorem dX5_holders_21 : decode cX5_holders 21 = .ok (.istore_n 1, 1) := by decide +kernel
theorem dX5_holders_22 : decode cX5_holders 22 = .ok (.iinc 2 1, 3) := by decide +kernel
theorem dX5_holders_25 : decode cX5_holders 25 = .ok (.goto (-21), 3) := by decide +kernel
theorem dX5_holders_28 : decode cX5_holders 28 = .ok (.iload_n 1, 1) := by decide +kernel
theorem dX5_holders_29 : decode cX5_holders 29 = .ok (.ireturn, 1) := by decide +kernel
theorem dX5_truthOf_0 : decode cX5_truthOf 0 = .ok (.aload_n 0, 1) := by decide +kernel
theorem dX5_truthOf_1 : decode cX5_truthOf 1 = .ok (.getfield 32, 3) := by decide +kernel
theorem dX5_truthOf_4 : decode cX5_truthOf 4 = .ok (.iconst 4, 1) := by decide +kernel
theorem dX5_truthOf_5 : decode cX5_truthOf 5 = .ok (.if_icmp .ne 20, 3) := by decide +kernel
theorem dX5_truthOf_8 : decode cX5_truthOf 8 = .ok (.aload_n 1, 1) := by decide +kernel
theorem dX5_truthOf_9 : decode cX5_truthOf 9 = .ok (.iload_n 3, 1) := by decide +kernel
theorem dX5_truthOf_10 : decode cX5_truthOf 10 = .ok (.aload_n 0, 1) := by decide +kernel
theorem dX5_truthOf_11 : decode cX5_truthOf 11 = .ok (.getfield 35, 3) := by decide +kernel
theorem dX5_truthOf_14 : decode cX5_truthOf 14 = .ok (.isub, 1) := by decide +kernel
theorem dX5_truthOf_15 : decode cX5_truthOf 15 = .ok (.iconst 1, 1) := by decide +kernel
theorem dX5_truthOf_16 : decode cX5_truthOf 16 = .ok (.iadd, 1) := by decide +kernel
theorem dX5_truthOf_17 : decode cX5_truthOf 17 = .ok (.iload_n 3, 1) := by decide +kernel
theorem dX5_truthOf_18 : decode cX5_truthOf 18 = .ok (.invokevirtual 61, 3) := by decide +kernel
theorem dX5_truthOf_21 : decode cX5_truthOf 21 = .ok (.invokestatic 65, 3) := by decide +kernel
theorem dX5_truthOf_24 : decode cX5_truthOf 24 = .ok (.ireturn, 1) := by decide +kernel
theorem dX5_truthOf_25 : decode cX5_truthOf 25 = .ok (.aload_n 1, 1) := by decide +kernel
theorem dX5_truthOf_26 : decode cX5_truthOf 26 = .ok (.iload_n 3, 1) := by decide +kernel
theorem dX5_truthOf_27 : decode cX5_truthOf 27 = .ok (.invokevirtual 69, 3) := by decide +kernel
theorem dX5_truthOf_30 : decode cX5_truthOf 30 = .ok (.ifCond .ne 5, 3) := by decide +kernel
theorem dX5_truthOf_33 : decode cX5_truthOf 33 = .ok (.iconst (-1), 1) := by decide +kernel
theorem dX5_truthOf_34 : decode cX5_truthOf 34 = .ok (.ireturn, 1) := by decide +kernel
theorem dX5_truthOf_35 : decode cX5_truthOf 35 = .ok (.aload_n 1, 1) := by decide +kernel
theorem dX5_truthOf_36 : decode cX5_truthOf 36 = .ok (.iload_n 3, 1) := by decide +kernel
theorem dX5_truthOf_37 : decode cX5_truthOf 37 = .ok (.invokevirtual 73, 3) := by decide +kernel
theorem dX5_truthOf_40 : decode cX5_truthOf 40 = .ok (.lstore 4, 2) := by decide +kernel
theorem dX5_truthOf_42 : decode cX5_truthOf 42 = .ok (.aload_n 0, 1) := by decide +kernel
theorem dX5_truthOf_43 : decode cX5_truthOf 43 = .ok (.getfield 32, 3) := by decide +kernel
theorem dX5_truthOf_46 : decode cX5_truthOf 46 = .ok (.tableswitch 195 0 5 #[38, 57, 95, 142, 195, 179], 38) := by decide +kernel
theorem dX5_truthOf_84 : decode cX5_truthOf 84 = .ok (.lload 4, 2) := by decide +kernel
theorem dX5_truthOf_86 : decode cX5_truthOf 86 = .ok (.aload_n 0, 1) := by decide +kernel
theorem dX5_truthOf_87 : decode cX5_truthOf 87 = .ok (.getfield 38, 3) := by decide +kernel
theorem dX5_truthOf_90 : decode cX5_truthOf 90 = .ok (.lcmp, 1) := by decide +kernel
theorem dX5_truthOf_91 : decode cX5_truthOf 91 = .ok (.ifCond .le 7, 3) := by decide +kernel
theorem dX5_truthOf_94 : decode cX5_truthOf 94 = .ok (.iconst 1, 1) := by decide +kernel
theorem dX5_truthOf_95 : decode cX5_truthOf 95 = .ok (.goto 4, 3) := by decide +kernel
theorem dX5_truthOf_98 : decode cX5_truthOf 98 = .ok (.iconst 0, 1) := by decide +kernel
theorem dX5_truthOf_99 : decode cX5_truthOf 99 = .ok (.invokestatic 65, 3) := by decide +kernel
theorem dX5_truthOf_102 : decode cX5_truthOf 102 = .ok (.ireturn, 1) := by decide +kernel
theorem dX5_truthOf_103 : decode cX5_truthOf 103 = .ok (.lload 4, 2) := by decide +kernel
theorem dX5_truthOf_105 : decode cX5_truthOf 105 = .ok (.aload_n 0, 1) := by decide +kernel
theorem dX5_truthOf_106 : decode cX5_truthOf 106 = .ok (.getfield 38, 3) := by decide +kernel
theorem dX5_truthOf_109 : decode cX5_truthOf 109 = .ok (.lcmp, 1) := by decide +kernel
theorem dX5_truthOf_110 : decode cX5_truthOf 110 = .ok (.ifCond .gt 22, 3) := by decide +kernel
theorem dX5_truthOf_113 : decode cX5_truthOf 113 = .ok (.lload 4, 2) := by decide +kernel
theorem dX5_truthOf_115 : decode cX5_truthOf 115 = .ok (.aload_n 0, 1) := by decide +kernel
theorem dX5_truthOf_116 : decode cX5_truthOf 116 = .ok (.getfield 42, 3) := by decide +kernel
theorem dX5_truthOf_119 : decode cX5_truthOf 119 = .ok (.i2l, 1) := by decide +kernel
theorem dX5_truthOf_120 : decode cX5_truthOf 120 = .ok (.lcmp, 1) := by decide +kernel
theorem dX5_truthOf_121 : decode cX5_truthOf 121 = .ok (.ifCond .lt 15, 3) := by decide +kernel
theorem dX5_truthOf_124 : decode cX5_truthOf 124 = .ok (.aload_n 2, 1) := by decide +kernel
theorem dX5_truthOf_125 : decode cX5_truthOf 125 = .ok (.getfield 77, 3) := by decide +kernel
theorem dX5_truthOf_128 : decode cX5_truthOf 128 = .ok (.iconst 1, 1) := by decide +kernel
theorem dX5_truthOf_129 : decode cX5_truthOf 129 = .ok (.if_icmp .ne 7, 3) := by decide +kernel
theorem dX5_truthOf_132 : decode cX5_truthOf 132 = .ok (.iconst 1, 1) := by decide +kernel
theorem dX5_truthOf_133 : decode cX5_truthOf 133 = .ok (.goto 4, 3) := by decide +kernel
theorem dX5_truthOf_136 : decode cX5_truthOf 136 = .ok (.iconst 0, 1) := by decide +kernel
theorem dX5_truthOf_137 : decode cX5_truthOf 137 = .ok (.invokestatic 65, 3) := by decide +kernel
theorem dX5_truthOf_140 : decode cX5_truthOf 140 = .ok (.ireturn, 1) := by decide +kernel
theorem dX5_truthOf_141 : decode cX5_truthOf 141 = .ok (.aload_n 1, 1) := by decide +kernel
theorem dX5_truthOf_142 : decode cX5_truthOf 142 = .ok (.iload_n 3, 1) := by decide +kernel
theorem dX5_truthOf_143 : decode cX5_truthOf 143 = .ok (.aload_n 0, 1) := by decide +kernel
theorem dX5_truthOf_144 : decode cX5_truthOf 144 = .ok (.getfield 35, 3) := by decide +kernel
theorem dX5_truthOf_147 : decode cX5_truthOf 147 = .ok (.isub, 1) := by decide +kernel
theorem dX5_truthOf_148 : decode cX5_truthOf 148 = .ok (.invokevirtual 69, 3) := by decide +kernel
theorem dX5_truthOf_151 : decode cX5_truthOf 151 = .ok (.ifCond .eq 35, 3) := by decide +kernel
theorem dX5_truthOf_154 : decode cX5_truthOf 154 = .ok (.lload 4, 2) := by decide +kernel
theorem dX5_truthOf_156 : decode cX5_truthOf 156 = .ok (.aload_n 1, 1) := by decide +kernel
theorem dX5_truthOf_157 : decode cX5_truthOf 157 = .ok (.iload_n 3, 1) := by decide +kernel
theorem dX5_truthOf_158 : decode cX5_truthOf 158 = .ok (.aload_n 0, 1) := by decide +kernel
theorem dX5_truthOf_159 : decode cX5_truthOf 159 = .ok (.getfield 35, 3) := by decide +kernel
theorem dX5_truthOf_162 : decode cX5_truthOf 162 = .ok (.isub, 1) := by decide +kernel
theorem dX5_truthOf_163 : decode cX5_truthOf 163 = .ok (.invokevirtual 73, 3) := by decide +kernel
theorem dX5_truthOf_166 : decode cX5_truthOf 166 = .ok (.lsub, 1) := by decide +kernel
theorem dX5_truthOf_167 : decode cX5_truthOf 167 = .ok (.aload_n 0, 1) := by decide +kernel
theorem dX5_truthOf_168 : decode cX5_truthOf 168 = .ok (.getfield 38, 3) := by decide +kernel
theorem dX5_truthOf_171 : decode cX5_truthOf 171 = .ok (.lcmp, 1) := by decide +kernel
theorem dX5_truthOf_172 : decode cX5_truthOf 172 = .ok (.ifCond .le 7, 3) := by decide +kernel
theorem dX5_truthOf_175 : decode cX5_truthOf 175 = .ok (.iconst 1, 1) := by decide +kernel
theorem dX5_truthOf_176 : decode cX5_truthOf 176 = .ok (.goto 4, 3) := by decide +kernel
theorem dX5_truthOf_179 : decode cX5_truthOf 179 = .ok (.iconst 0, 1) := by decide +kernel
theorem dX5_truthOf_180 : decode cX5_truthOf 180 = .ok (.invokestatic 65, 3) := by decide +kernel
theorem dX5_truthOf_183 : decode cX5_truthOf 183 = .ok (.goto 4, 3) := by decide +kernel
theorem dX5_truthOf_186 : decode cX5_truthOf 186 = .ok (.iconst (-1), 1) := by decide +kernel
theorem dX5_truthOf_187 : decode cX5_truthOf 187 = .ok (.ireturn, 1) := by decide +kernel
theorem dX5_truthOf_188 : decode cX5_truthOf 188 = .ok (.aload_n 0, 1) := by decide +kernel
theorem dX5_truthOf_189 : decode cX5_truthOf 189 = .ok (.aload_n 1, 1) := by decide +kernel
theorem dX5_truthOf_190 : decode cX5_truthOf 190 = .ok (.iload_n 3, 1) := by decide +kernel
theorem dX5_truthOf_191 : decode cX5_truthOf 191 = .ok (.aload_n 0, 1) := by decide +kernel
theorem dX5_truthOf_192 : decode cX5_truthOf 192 = .ok (.getfield 35, 3) := by decide +kernel
theorem dX5_truthOf_195 : decode cX5_truthOf 195 = .ok (.invokevirtual 80, 3) := by decide +kernel
theorem dX5_truthOf_198 : decode cX5_truthOf 198 = .ok (.ifCond .eq 22, 3) := by decide +kernel
theorem dX5_truthOf_201 : decode cX5_truthOf 201 = .ok (.aload_n 0, 1) := by decide +kernel
theorem dX5_truthOf_202 : decode cX5_truthOf 202 = .ok (.aload_n 1, 1) := by decide +kernel
theorem dX5_truthOf_203 : decode cX5_truthOf 203 = .ok (.iload_n 3, 1) := by decide +kernel
theorem dX5_truthOf_204 : decode cX5_truthOf 204 = .ok (.iconst 2, 1) := by decide +kernel
theorem dX5_truthOf_205 : decode cX5_truthOf 205 = .ok (.aload_n 0, 1) := by decide +kernel
theorem dX5_truthOf_206 : decode cX5_truthOf 206 = .ok (.getfield 35, 3) := by decide +kernel
theorem dX5_truthOf_209 : decode cX5_truthOf 209 = .ok (.imul, 1) := by decide +kernel
theorem dX5_truthOf_210 : decode cX5_truthOf 210 = .ok (.invokevirtual 80, 3) := by decide +kernel
theorem dX5_truthOf_213 : decode cX5_truthOf 213 = .ok (.ifCond .eq 7, 3) := by decide +kernel
theorem dX5_truthOf_216 : decode cX5_truthOf 216 = .ok (.iconst 1, 1) := by decide +kernel
theorem dX5_truthOf_217 : decode cX5_truthOf 217 = .ok (.goto 4, 3) := by decide +kernel
theorem dX5_truthOf_220 : decode cX5_truthOf 220 = .ok (.iconst 0, 1) := by decide +kernel
theorem dX5_truthOf_221 : decode cX5_truthOf 221 = .ok (.invokestatic 65, 3) := by decide +kernel
theorem dX5_truthOf_224 : decode cX5_truthOf 224 = .ok (.ireturn, 1) := by decide +kernel
theorem dX5_truthOf_225 : decode cX5_truthOf 225 = .ok (.aload_n 0, 1) := by decide +kernel
theorem dX5_truthOf_226 : decode cX5_truthOf 226 = .ok (.lload 4, 2) := by decide +kernel
theorem dX5_truthOf_228 : decode cX5_truthOf 228 = .ok (.aload_n 0, 1) := by decide +kernel
theorem dX5_truthOf_229 : decode cX5_truthOf 229 = .ok (.aload_n 1, 1) := by decide +kernel
theorem dX5_truthOf_230 : decode cX5_truthOf 230 = .ok (.iload_n 3, 1) := by decide +kernel
theorem dX5_truthOf_231 : decode cX5_truthOf 231 = .ok (.invokevirtual 84, 3) := by decide +kernel
theorem dX5_truthOf_234 : decode cX5_truthOf 234 = .ok (.invokevirtual 88, 3) := by decide +kernel
theorem dX5_truthOf_237 : decode cX5_truthOf 237 = .ok (.invokestatic 65, 3) := by decide +kernel
theorem dX5_truthOf_240 : decode cX5_truthOf 240 = .ok (.ireturn, 1) := by decide +kernel
theorem dX5_truthOf_241 : decode cX5_truthOf 241 = .ok (.iconst (-1), 1) := by decide +kernel
theorem dX5_truthOf_242 : decode cX5_truthOf 242 = .ok (.ireturn, 1) := by decide +kernel
theorem dX5_isPartAbove_0 : decode cX5_isPartAbove 0 = .ok (.iconst 0, 1) := by decide +kernel
theorem dX5_isPartAbove_1 : decode cX5_isPartAbove 1 = .ok (.istore 4, 2) := by decide +kernel
theorem dX5_isPartAbove_3 : decode cX5_isPartAbove 3 = .ok (.iconst 0, 1) := by decide +kernel
theorem dX5_isPartAbove_4 : decode cX5_isPartAbove 4 = .ok (.istore 5, 2) := by decide +kernel
theorem dX5_isPartAbove_6 : decode cX5_isPartAbove 6 = .ok (.iload_n 2, 1) := by decide +kernel
theorem dX5_isPartAbove_7 : decode cX5_isPartAbove 7 = .ok (.iload_n 3, 1) := by decide +kernel
theorem dX5_isPartAbove_8 : decode cX5_isPartAbove 8 = .ok (.isub, 1) := by decide +kernel
theorem dX5_isPartAbove_9 : decode cX5_isPartAbove 9 = .ok (.iconst 1, 1) := by decide +kernel
theorem dX5_isPartAbove_10 : decode cX5_isPartAbove 10 = .ok (.iadd, 1) := by decide +kernel
theorem dX5_isPartAbove_11 : decode cX5_isPartAbove 11 = .ok (.istore 6, 2) := by decide +kernel
theorem dX5_isPartAbove_13 : decode cX5_isPartAbove 13 = .ok (.iload 6, 2) := by decide +kernel
theorem dX5_isPartAbove_15 : decode cX5_isPartAbove 15 = .ok (.iload_n 2, 1) := by decide +kernel
theorem dX5_isPartAbove_16 : decode cX5_isPartAbove 16 = .ok (.if_icmp .gt 48, 3) := by decide +kernel
theorem dX5_isPartAbove_19 : decode cX5_isPartAbove 19 = .ok (.aload_n 1, 1) := by decide +kernel
theorem dX5_isPartAbove_20 : decode cX5_isPartAbove 20 = .ok (.iload 6, 2) := by decide +kernel
theorem dX5_isPartAbove_22 : decode cX5_isPartAbove 22 = .ok (.invokevirtual 69, 3) := by decide +kernel
theorem dX5_isPartAbove_25 : decode cX5_isPartAbove 25 = .ok (.ifCond .eq 33, 3) := by decide +kernel
theorem dX5_isPartAbove_28 : decode cX5_isPartAbove 28 = .ok (.iinc 4 1, 3) := by decide +kernel
theorem dX5_isPartAbove_31 : decode cX5_isPartAbove 31 = .ok (.iload 5, 2) := by decide +kernel
theorem dX5_isPartAbove_33 : decode cX5_isPartAbove 33 = .ok (.aload_n 1, 1) := by decide +kernel
theorem dX5_isPartAbove_34 : decode cX5_isPartAbove 34 = .ok (.iload 6, 2) := by decide +kernel
theorem dX5_isPartAbove_36 : decode cX5_isPartAbove 36 = .ok (.invokevirtual 73, 3) := by decide +kernel
theorem dX5_isPartAbove_39 : decode cX5_isPartAbove 39 = .ok (.aload_n 0, 1) := by decide +kernel
theorem dX5_isPartAbove_40 : decode cX5_isPartAbove 40 = .ok (.getfield 38, 3) := by decide +kernel
theorem dX5_isPartAbove_43 : decode cX5_isPartAbove 43 = .ok (.lcmp, 1) := by decide +kernel
theorem dX5_isPartAbove_44 : decode cX5_isPartAbove 44 = .ok (.ifCond .le 7, 3) := by decide +kernel
theorem dX5_isPartAbove_47 : decode cX5_isPartAbove 47 = .ok (.iconst 1, 1) := by decide +kernel
theorem dX5_isPartAbove_48 : decode cX5_isPartAbove 48 = .ok (.goto 4, 3) := by decide +kernel
theorem dX5_isPartAbove_51 : decode cX5_isPartAbove 51 = .ok (.iconst 0, 1) := by decide +kernel
theorem dX5_isPartAbove_52 : decode cX5_isPartAbove 52 = .ok (.invokestatic 65, 3) := by decide +kernel
theorem dX5_isPartAbove_55 : decode cX5_isPartAbove 55 = .ok (.iadd, 1) := by decide +kernel
theorem dX5_isPartAbove_56 : decode cX5_isPartAbove 56 = .ok (.istore 5, 2) := by decide +kernel
theorem dX5_isPartAbove_58 : decode cX5_isPartAbove 58 = .ok (.iinc 6 1, 3) := by decide +kernel
theorem dX5_isPartAbove_61 : decode cX5_isPartAbove 61 = .ok (.goto (-48), 3) := by decide +kernel
theorem dX5_isPartAbove_64 : decode cX5_isPartAbove 64 = .ok (.bipush 100, 2) := by decide +kernel
theorem dX5_isPartAbove_66 : decode cX5_isPartAbove 66 = .ok (.iload 5, 2) := by decide +kernel
theorem dX5_isPartAbove_68 : decode cX5_isPartAbove 68 = .ok (.imul, 1) := by decide +kernel
theorem dX5_isPartAbove_69 : decode cX5_isPartAbove 69 = .ok (.aload_n 0, 1) := by decide +kernel
theorem dX5_isPartAbove_70 : decode cX5_isPartAbove 70 = .ok (.getfield 42, 3) := by decide +kernel
theorem dX5_isPartAbove_73 : decode cX5_isPartAbove 73 = .ok (.iload 4, 2) := by decide +kernel
theorem dX5_isPartAbove_75 : decode cX5_isPartAbove 75 = .ok (.imul, 1) := by decide +kernel
theorem dX5_isPartAbove_76 : decode cX5_isPartAbove 76 = .ok (.if_icmp .lt 7, 3) := by decide +kernel
theorem dX5_isPartAbove_79 : decode cX5_isPartAbove 79 = .ok (.iconst 1, 1) := by decide +kernel
theorem dX5_isPartAbove_80 : decode cX5_isPartAbove 80 = .ok (.goto 4, 3) := by decide +kernel
theorem dX5_isPartAbove_83 : decode cX5_isPartAbove 83 = .ok (.iconst 0, 1) := by decide +kernel
theorem dX5_isPartAbove_84 : decode cX5_isPartAbove 84 = .ok (.ireturn, 1) := by decide +kernel
theorem dX5_isOdd_0 : decode cX5_isOdd 0 = .ok (.iload_n 3, 1) := by decide +kernel
theorem dX5_isOdd_1 : decode cX5_isOdd 1 = .ok (.iconst 3, 1) := by decide +kernel
theorem dX5_isOdd_2 : decode cX5_isOdd 2 = .ok (.if_icmp .ge 5, 3) := by decide +kernel
theorem dX5_isOdd_5 : decode cX5_isOdd 5 = .ok (.iconst 0, 1) := by decide +kernel
theorem dX5_isOdd_6 : decode cX5_isOdd 6 = .ok (.ireturn, 1) := by decide +kernel
theorem dX5_isOdd_7 : decode cX5_isOdd 7 = .ok (.iload_n 3, 1) := by decide +kernel
theorem dX5_isOdd_8 : decode cX5_isOdd 8 = .ok (.iconst 1, 1) := by decide +kernel
theorem dX5_isOdd_9 : decode cX5_isOdd 9 = .ok (.isub, 1) := by decide +kernel
theorem dX5_isOdd_10 : decode cX5_isOdd 10 = .ok (.iconst 2, 1) := by decide +kernel
theorem dX5_isOdd_11 : decode cX5_isOdd 11 = .ok (.idiv, 1) := by decide +kernel
theorem dX5_isOdd_12 : decode cX5_isOdd 12 = .ok (.istore 4, 2) := by decide +kernel
theorem dX5_isOdd_14 : decode cX5_isOdd 14 = .ok (.iload 4, 2) := by decide +kernel
theorem dX5_isOdd_16 : decode cX5_isOdd 16 = .ok (.aload_n 0, 1) := by decide +kernel
theorem dX5_isOdd_17 : decode cX5_isOdd 17 = .ok (.getfield 24, 3) := by decide +kernel
theorem dX5_isOdd_20 : decode cX5_isOdd 20 = .ok (.arraylength, 1) := by decide +kernel
theorem dX5_isOdd_21 : decode cX5_isOdd 21 = .ok (.if_icmp .ge 15, 3) := by decide +kernel
theorem dX5_isOdd_24 : decode cX5_isOdd 24 = .ok (.lload_n 1, 1) := by decide +kernel
theorem dX5_isOdd_25 : decode cX5_isOdd 25 = .ok (.aload_n 0, 1) := by decide +kernel
theorem dX5_isOdd_26 : decode cX5_isOdd 26 = .ok (.getfield 24, 3) := by decide +kernel
theorem dX5_isOdd_29 : decode cX5_isOdd 29 = .ok (.iload 4, 2) := by decide +kernel
theorem dX5_isOdd_31 : decode cX5_isOdd 31 = .ok (.laload, 1) := by decide +kernel
theorem dX5_isOdd_32 : decode cX5_isOdd 32 = .ok (.lsub, 1) := by decide +kernel
theorem dX5_isOdd_33 : decode cX5_isOdd 33 = .ok (.goto 4, 3) := by decide +kernel
theorem dX5_isOdd_36 : decode cX5_isOdd 36 = .ok (.lconst 0, 1) := by decide +kernel
theorem dX5_isOdd_37 : decode cX5_isOdd 37 = .ok (.lstore 5, 2) := by decide +kernel
theorem dX5_isOdd_39 : decode cX5_isOdd 39 = .ok (.lload 5, 2) := by decide +kernel
theorem dX5_isOdd_41 : decode cX5_isOdd 41 = .ok (.invokestatic 92, 3) := by decide +kernel
theorem dX5_isOdd_44 : decode cX5_isOdd 44 = .ok (.aload_n 0, 1) := by decide +kernel
theorem dX5_isOdd_45 : decode cX5_isOdd 45 = .ok (.getfield 38, 3) := by decide +kernel
theorem dX5_isOdd_48 : decode cX5_isOdd 48 = .ok (.lconst 0, 1) := by decide +kernel
theorem dX5_isOdd_49 : decode cX5_isOdd 49 = .ok (.invokestatic 98, 3) := by decide +kernel
theorem dX5_isOdd_52 : decode cX5_isOdd 52 = .ok (.lcmp, 1) := by decide +kernel
theorem dX5_isOdd_53 : decode cX5_isOdd 53 = .ok (.ifCond .le 7, 3) := by decide +kernel
theorem dX5_isOdd_56 : decode cX5_isOdd 56 = .ok (.iconst 1, 1) := by decide +kernel
theorem dX5_isOdd_57 : decode cX5_isOdd 57 = .ok (.goto 4, 3) := by decide +kernel
theorem dX5_isOdd_60 : decode cX5_isOdd 60 = .ok (.iconst 0, 1) := by decide +kernel
theorem dX5_isOdd_61 : decode cX5_isOdd 61 = .ok (.ireturn, 1) := by decide +kernel
theorem dX5_sortBefore_0 : decode cX5_sortBefore 0 = .ok (.iconst 0, 1) := by decide +kernel
theorem dX5_sortBefore_1 : decode cX5_sortBefore 1 = .ok (.istore_n 3, 1) := by decide +kernel
theorem dX5_sortBefore_2 : decode cX5_sortBefore 2 = .ok (.iload_n 2, 1) := by decide +kernel
theorem dX5_sortBefore_3 : decode cX5_sortBefore 3 = .ok (.aload_n 0, 1) := by decide +kernel
theorem dX5_sortBefore_4 : decode cX5_sortBefore 4 = .ok (.getfield 35, 3) := by decide +kernel
theorem dX5_sortBefore_7 : decode cX5_sortBefore 7 = .ok (.isub, 1) := by decide +kernel
theorem dX5_sortBefore_8 : decode cX5_sortBefore 8 = .ok (.istore 4, 2) := by decide +kernel
theorem dX5_sortBefore_10 : decode cX5_sortBefore 10 = .ok (.iload 4, 2) := by decide +kernel
theorem dX5_sortBefore_12 : decode cX5_sortBefore 12 = .ok (.iload_n 2, 1) := by decide +kernel
theorem dX5_sortBefore_13 : decode cX5_sortBefore 13 = .ok (.if_icmp .ge 41, 3) := by decide +kernel
theorem dX5_sortBefore_16 : decode cX5_sortBefore 16 = .ok (.aload_n 1, 1) := by decide +kernel
theorem dX5_sortBefore_17 : decode cX5_sortBefore 17 = .ok (.iload 4, 2) := by decide +kernel
theorem dX5_sortBefore_19 : decode cX5_sortBefore 19 = .ok (.invokevirtual 69, 3) := by decide +kernel
theorem dX5_sortBefore_22 : decode cX5_sortBefore 22 = .ok (.ifCond .eq 26, 3) := by decide +kernel
theorem dX5_sortBefore_25 : decode cX5_sortBefore 25 = .ok (.iload_n 3, 1) := by decide +kernel
theorem dX5_sortBefore_26 : decode cX5_sortBefore 26 = .ok (.aload_n 0, 1) := by decide +kernel
theorem dX5_sortBefore_27 : decode cX5_sortBefore 27 = .ok (.getfield 24, 3) := by decide +kernel
theorem dX5_sortBefore_30 : decode cX5_sortBefore 30 = .ok (.arraylength, 1) := by decide +kernel
theorem dX5_sortBefore_31 : decode cX5_sortBefore 31 = .ok (.if_icmp .ge 17, 3) := by decide +kernel
theorem dX5_sortBefore_34 : decode cX5_sortBefore 34 = .ok (.aload_n 0, 1) := by decide +kernel
theorem dX5_sortBefore_35 : decode cX5_sortBefore 35 = .ok (.aload_n 1, 1) := by decide +kernel
theorem dX5_sortBefore_36 : decode cX5_sortBefore 36 = .ok (.iload 4, 2) := by decide +kernel
theorem dX5_sortBefore_38 : decode cX5_sortBefore 38 = .ok (.invokevirtual 73, 3) := by decide +kernel
theorem dX5_sortBefore_41 : decode cX5_sortBefore 41 = .ok (.iload_n 3, 1) := by decide +kernel
theorem dX5_sortBefore_42 : decode cX5_sortBefore 42 = .ok (.invokevirtual 102, 3) := by decide +kernel
theorem dX5_sortBefore_45 : decode cX5_sortBefore 45 = .ok (.iinc 3 1, 3) := by decide +kernel
theorem dX5_sortBefore_48 : decode cX5_sortBefore 48 = .ok (.iinc 4 1, 3) := by decide +kernel
theorem dX5_sortBefore_51 : decode cX5_sortBefore 51 = .ok (.goto (-41), 3) := by decide +kernel
theorem dX5_sortBefore_54 : decode cX5_sortBefore 54 = .ok (.iload_n 3, 1) := by decide +kernel
theorem dX5_sortBefore_55 : decode cX5_sortBefore 55 = .ok (.ireturn, 1) := by decide +kernel
theorem dX5_insert_0 : decode cX5_insert 0 = .ok (.iload_n 3, 1) := by decide +kernel
theorem dX5_insert_1 : decode cX5_insert 1 = .ok (.istore 4, 2) := by decide +kernel
theorem dX5_insert_3 : decode cX5_insert 3 = .ok (.iload 4, 2) := by decide +kernel
theorem dX5_insert_5 : decode cX5_insert 5 = .ok (.ifCond .le 49, 3) := by decide +kernel
theorem dX5_insert_8 : decode cX5_insert 8 = .ok (.iload 4, 2) := by decide +kernel
theorem dX5_insert_10 : decode cX5_insert 10 = .ok (.aload_n 0, 1) := by decide +kernel
theorem dX5_insert_11 : decode cX5_insert 11 = .ok (.getfield 24, 3) := by decide +kernel
theorem dX5_insert_14 : decode cX5_insert 14 = .ok (.arraylength, 1) := by decide +kernel
theorem dX5_insert_15 : decode cX5_insert 15 = .ok (.if_icmp .ge 39, 3) := by decide +kernel
theorem dX5_insert_18 : decode cX5_insert 18 = .ok (.aload_n 0, 1) := by decide +kernel
theorem dX5_insert_19 : decode cX5_insert 19 = .ok (.getfield 24, 3) := by decide +kernel
theorem dX5_insert_22 : decode cX5_insert 22 = .ok (.iload 4, 2) := by decide +kernel
theorem dX5_insert_24 : decode cX5_insert 24 = .ok (.iconst 1, 1) := by decide +kernel
theorem dX5_insert_25 : decode cX5_insert 25 = .ok (.isub, 1) := by decide +kernel
theorem dX5_insert_26 : decode cX5_insert 26 = .ok (.laload, 1) := by decide +kernel
theorem dX5_insert_27 : decode cX5_insert 27 = .ok (.lload_n 1, 1) := by decide +kernel
theorem dX5_insert_28 : decode cX5_insert 28 = .ok (.lcmp, 1) := by decide +kernel
theorem dX5_insert_29 : decode cX5_insert 29 = .ok (.ifCond .le 25, 3) := by decide +kernel
theorem dX5_insert_32 : decode cX5_insert 32 = .ok (.aload_n 0, 1) := by decide +kernel
theorem dX5_insert_33 : decode cX5_insert 33 = .ok (.getfield 24, 3) := by decide +kernel
theorem dX5_insert_36 : decode cX5_insert 36 = .ok (.iload 4, 2) := by decide +kernel
theorem dX5_insert_38 : decode cX5_insert 38 = .ok (.aload_n 0, 1) := by decide +kernel
theorem dX5_insert_39 : decode cX5_insert 39 = .ok (.getfield 24, 3) := by decide +kernel
theorem dX5_insert_42 : decode cX5_insert 42 = .ok (.iload 4, 2) := by decide +kernel
theorem dX5_insert_44 : decode cX5_insert 44 = .ok (.iconst 1, 1) := by decide +kernel
theorem dX5_insert_45 : decode cX5_insert 45 = .ok (.isub, 1) := by decide +kernel
theorem dX5_insert_46 : decode cX5_insert 46 = .ok (.laload, 1) := by decide +kernel
theorem dX5_insert_47 : decode cX5_insert 47 = .ok (.lastore, 1) := by decide +kernel
theorem dX5_insert_48 : decode cX5_insert 48 = .ok (.iinc 4 (-1), 3) := by decide +kernel
theorem dX5_insert_51 : decode cX5_insert 51 = .ok (.goto (-48), 3) := by decide +kernel
theorem dX5_insert_54 : decode cX5_insert 54 = .ok (.iload 4, 2) := by decide +kernel
theorem dX5_insert_56 : decode cX5_insert 56 = .ok (.ifCond .lt 21, 3) := by decide +kernel
theorem dX5_insert_59 : decode cX5_insert 59 = .ok (.iload 4, 2) := by decide +kernel
theorem dX5_insert_61 : decode cX5_insert 61 = .ok (.aload_n 0, 1) := by decide +kernel
theorem dX5_insert_62 : decode cX5_insert 62 = .ok (.getfield 24, 3) := by decide +kernel
theorem dX5_insert_65 : decode cX5_insert 65 = .ok (.arraylength, 1) := by decide +kernel
theorem dX5_insert_66 : decode cX5_insert 66 = .ok (.if_icmp .ge 11, 3) := by decide +kernel
theorem dX5_insert_69 : decode cX5_insert 69 = .ok (.aload_n 0, 1) := by decide +kernel
theorem dX5_insert_70 : decode cX5_insert 70 = .ok (.getfield 24, 3) := by decide +kernel
theorem dX5_insert_73 : decode cX5_insert 73 = .ok (.iload 4, 2) := by decide +kernel
theorem dX5_insert_75 : decode cX5_insert 75 = .ok (.lload_n 1, 1) := by decide +kernel
theorem dX5_insert_76 : decode cX5_insert 76 = .ok (.lastore, 1) := by decide +kernel
theorem dX5_insert_77 : decode cX5_insert 77 = .ok (.return_, 1) := by decide +kernel
theorem dX5_imagine_0 : decode cX5_imagine 0 = .ok (.iconst 1, 1) := by decide +kernel
theorem dX5_imagine_1 : decode cX5_imagine 1 = .ok (.istore_n 2, 1) := by decide +kernel
theorem dX5_imagine_2 : decode cX5_imagine 2 = .ok (.iload_n 2, 1) := by decide +kernel
theorem dX5_imagine_3 : decode cX5_imagine 3 = .ok (.aload_n 0, 1) := by decide +kernel
theorem dX5_imagine_4 : decode cX5_imagine 4 = .ok (.getfield 21, 3) := by decide +kernel
theorem dX5_imagine_7 : decode cX5_imagine 7 = .ok (.arraylength, 1) := by decide +kernel
theorem dX5_imagine_8 : decode cX5_imagine 8 = .ok (.if_icmp .ge 82, 3) := by decide +kernel
theorem dX5_imagine_11 : decode cX5_imagine 11 = .ok (.iload_n 2, 1) := by decide +kernel
theorem dX5_imagine_12 : decode cX5_imagine 12 = .ok (.aload_n 1, 1) := by decide +kernel
theorem dX5_imagine_13 : decode cX5_imagine 13 = .ok (.getfield 106, 3) := by decide +kernel
theorem dX5_imagine_16 : decode cX5_imagine 16 = .ok (.arraylength, 1) := by decide +kernel
theorem dX5_imagine_17 : decode cX5_imagine 17 = .ok (.if_icmp .ge 73, 3) := by decide +kernel
theorem dX5_imagine_20 : decode cX5_imagine 20 = .ok (.aload_n 1, 1) := by decide +kernel
theorem dX5_imagine_21 : decode cX5_imagine 21 = .ok (.getfield 106, 3) := by decide +kernel
theorem dX5_imagine_24 : decode cX5_imagine 24 = .ok (.iload_n 2, 1) := by decide +kernel
theorem dX5_imagine_25 : decode cX5_imagine 25 = .ok (.baload, 1) := by decide +kernel
theorem dX5_imagine_26 : decode cX5_imagine 26 = .ok (.ifCond .ne 31, 3) := by decide +kernel
theorem dX5_imagine_29 : decode cX5_imagine 29 = .ok (.aload_n 1, 1) := by decide +kernel
theorem dX5_imagine_30 : decode cX5_imagine 30 = .ok (.getfield 110, 3) := by decide +kernel
theorem dX5_imagine_33 : decode cX5_imagine 33 = .ok (.iload_n 2, 1) := by decide +kernel
theorem dX5_imagine_34 : decode cX5_imagine 34 = .ok (.if_icmp .lt 23, 3) := by decide +kernel
theorem dX5_imagine_37 : decode cX5_imagine 37 = .ok (.aload_n 1, 1) := by decide +kernel
theorem dX5_imagine_38 : decode cX5_imagine 38 = .ok (.getfield 106, 3) := by decide +kernel
theorem dX5_imagine_41 : decode cX5_imagine 41 = .ok (.iload_n 2, 1) := by decide +kernel
theorem dX5_imagine_42 : decode cX5_imagine 42 = .ok (.iconst 1, 1) := by decide +kernel
theorem dX5_imagine_43 : decode cX5_imagine 43 = .ok (.bastore, 1) := by decide +kernel
theorem dX5_imagine_44 : decode cX5_imagine 44 = .ok (.aload_n 0, 1) := by decide +kernel
theorem dX5_imagine_45 : decode cX5_imagine 45 = .ok (.getfield 21, 3) := by decide +kernel
theorem dX5_imagine_48 : decode cX5_imagine 48 = .ok (.iload_n 2, 1) := by decide +kernel
theorem dX5_imagine_49 : decode cX5_imagine 49 = .ok (.dup2, 1) := by decide +kernel
theorem dX5_imagine_50 : decode cX5_imagine 50 = .ok (.iaload, 1) := by decide +kernel
theorem dX5_imagine_51 : decode cX5_imagine 51 = .ok (.iconst 1, 1) := by decide +kernel
theorem dX5_imagine_52 : decode cX5_imagine 52 = .ok (.iadd, 1) := by decide +kernel
theorem dX5_imagine_53 : decode cX5_imagine 53 = .ok (.iastore, 1) := by decide +kernel
theorem dX5_imagine_54 : decode cX5_imagine 54 = .ok (.goto 30, 3) := by decide +kernel
theorem dX5_imagine_57 : decode cX5_imagine 57 = .ok (.aload_n 1, 1) := by decide +kernel
theorem dX5_imagine_58 : decode cX5_imagine 58 = .ok (.getfield 106, 3) := by decide +kernel
theorem dX5_imagine_61 : decode cX5_imagine 61 = .ok (.iload_n 2, 1) := by decide +kernel
theorem dX5_imagine_62 : decode cX5_imagine 62 = .ok (.baload, 1) := by decide +kernel
theorem dX5_imagine_63 : decode cX5_imagine 63 = .ok (.ifCond .eq 21, 3) := by decide +kernel
theorem dX5_imagine_66 : decode cX5_imagine 66 = .ok (.aload_n 1, 1) := by decide +kernel
theorem dX5_imagine_67 : decode cX5_imagine 67 = .ok (.getfield 113, 3) := by decide +kernel
theorem dX5_imagine_70 : decode cX5_imagine 70 = .ok (.aload_n 0, 1) := by decide +kernel
theorem dX5_imagine_71 : decode cX5_imagine 71 = .ok (.getfield 48, 3) := by decide +kernel
theorem dX5_imagine_74 : decode cX5_imagine 74 = .ok (.if_icmp .lt 10, 3) := by decide +kernel
theorem dX5_imagine_77 : decode cX5_imagine 77 = .ok (.aload_n 1, 1) := by decide +kernel
theorem dX5_imagine_78 : decode cX5_imagine 78 = .ok (.getfield 106, 3) := by decide +kernel
theorem dX5_imagine_81 : decode cX5_imagine 81 = .ok (.iload_n 2, 1) := by decide +kernel
theorem dX5_imagine_82 : decode cX5_imagine 82 = .ok (.iconst 0, 1) := by decide +kernel
theorem dX5_imagine_83 : decode cX5_imagine 83 = .ok (.bastore, 1) := by decide +kernel
theorem dX5_imagine_84 : decode cX5_imagine 84 = .ok (.iinc 2 1, 3) := by decide +kernel
theorem dX5_imagine_87 : decode cX5_imagine 87 = .ok (.goto (-85), 3) := by decide +kernel
theorem dX5_imagine_90 : decode cX5_imagine 90 = .ok (.return_, 1) := by decide +kernel
theorem dX5_begunAt_0 : decode cX5_begunAt 0 = .ok (.iload_n 1, 1) := by decide +kernel
theorem dX5_begunAt_1 : decode cX5_begunAt 1 = .ok (.ifCond .lt 21, 3) := by decide +kernel
theorem dX5_begunAt_4 : decode cX5_begunAt 4 = .ok (.iload_n 1, 1) := by decide +kernel
theorem dX5_begunAt_5 : decode cX5_begunAt 5 = .ok (.aload_n 0, 1) := by decide +kernel
theorem dX5_begunAt_6 : decode cX5_begunAt 6 = .ok (.getfield 21, 3) := by decide +kernel
theorem dX5_begunAt_9 : decode cX5_begunAt 9 = .ok (.arraylength, 1) := by decide +kernel
theorem dX5_begunAt_10 : decode cX5_begunAt 10 = .ok (.if_icmp .ge 12, 3) := by decide +kernel
theorem dX5_begunAt_13 : decode cX5_begunAt 13 = .ok (.aload_n 0, 1) := by decide +kernel
theorem dX5_begunAt_14 : decode cX5_begunAt 14 = .ok (.getfield 21, 3) := by decide +kernel
theorem dX5_begunAt_17 : decode cX5_begunAt 17 = .ok (.iload_n 1, 1) := by decide +kernel
theorem dX5_begunAt_18 : decode cX5_begunAt 18 = .ok (.iaload, 1) := by decide +kernel
theorem dX5_begunAt_19 : decode cX5_begunAt 19 = .ok (.goto 4, 3) := by decide +kernel
theorem dX5_begunAt_22 : decode cX5_begunAt 22 = .ok (.iconst 0, 1) := by decide +kernel
theorem dX5_begunAt_23 : decode cX5_begunAt 23 = .ok (.ireturn, 1) := by decide +kernel
theorem dX6_init_0 : decode cX6_init 0 = .ok (.aload_n 0, 1) := by decide +kernel
theorem dX6_init_1 : decode cX6_init 1 = .ok (.invokespecial 3, 3) := by decide +kernel
theorem dX6_init_4 : decode cX6_init 4 = .ok (.aload_n 0, 1) := by decide +kernel
theorem dX6_init_5 : decode cX6_init 5 = .ok (.iload_n 1, 1) := by decide +kernel
theorem dX6_init_6 : decode cX6_init 6 = .ok (.putfield 9, 3) := by decide +kernel
theorem dX6_init_9 : decode cX6_init 9 = .ok (.aload_n 0, 1) := by decide +kernel
theorem dX6_init_10 : decode cX6_init 10 = .ok (.iload_n 2, 1) := by decide +kernel
theorem dX6_init_11 : decode cX6_init 11 = .ok (.putfield 15, 3) := by decide +kernel
theorem dX6_init_14 : decode cX6_init 14 = .ok (.aload_n 0, 1) := by decide +kernel
theorem dX6_init_15 : decode cX6_init 15 = .ok (.iload_n 3, 1) := by decide +kernel
theorem dX6_init_16 : decode cX6_init 16 = .ok (.putfield 18, 3) := by decide +kernel
theorem dX6_init_19 : decode cX6_init 19 = .ok (.aload_n 0, 1) := by decide +kernel
theorem dX6_init_20 : decode cX6_init 20 = .ok (.iload 4, 2) := by decide +kernel
theorem dX6_init_22 : decode cX6_init 22 = .ok (.putfield 21, 3) := by decide +kernel
theorem dX6_init_25 : decode cX6_init 25 = .ok (.return_, 1) := by decide +kernel
theorem dX6_covers_0 : decode cX6_covers 0 = .ok (.iload_n 1, 1) := by decide +kernel
theorem dX6_covers_1 : decode cX6_covers 1 = .ok (.aload_n 0, 1) := by decide +kernel
theorem dX6_covers_2 : decode cX6_covers 2 = .ok (.getfield 15, 3) := by decide +kernel
theorem dX6_covers_5 : decode cX6_covers 5 = .ok (.isub, 1) := by decide +kernel
theorem dX6_covers_6 : decode cX6_covers 6 = .ok (.bipush 48, 2) := by decide +kernel
theorem dX6_covers_8 : decode cX6_covers 8 = .ok (.invokestatic 24, 3) := by decide +kernel
theorem dX6_covers_11 : decode cX6_covers 11 = .ok (.aload_n 0, 1) := by decide +kernel
theorem dX6_covers_12 : decode cX6_covers 12 = .ok (.getfield 18, 3) := by decide +kernel
theorem dX6_covers_15 : decode cX6_covers 15 = .ok (.if_icmp .ge 7, 3) := by decide +kernel
theorem dX6_covers_18 : decode cX6_covers 18 = .ok (.iconst 1, 1) := by decide +kernel
theorem dX6_covers_19 : decode cX6_covers 19 = .ok (.goto 4, 3) := by decide +kernel
theorem dX6_covers_22 : decode cX6_covers 22 = .ok (.iconst 0, 1) := by decide +kernel
theorem dX6_covers_23 : decode cX6_covers 23 = .ok (.ireturn, 1) := by decide +kernel
theorem dX7_init_0 : decode cX7_init 0 = .ok (.aload_n 0, 1) := by decide +kernel
theorem dX7_init_1 : decode cX7_init 1 = .ok (.invokespecial 1, 3) := by decide +kernel
theorem dX7_init_4 : decode cX7_init 4 = .ok (.aload_n 0, 1) := by decide +kernel
theorem dX7_init_5 : decode cX7_init 5 = .ok (.iload_n 1, 1) := by decide +kernel
theorem dX7_init_6 : decode cX7_init 6 = .ok (.putfield 7, 3) := by decide +kernel
theorem dX7_init_9 : decode cX7_init 9 = .ok (.aload_n 0, 1) := by decide +kernel
theorem dX7_init_10 : decode cX7_init 10 = .ok (.iload_n 2, 1) := by decide +kernel
theorem dX7_init_11 : decode cX7_init 11 = .ok (.putfield 13, 3) := by decide +kernel
theorem dX7_init_14 : decode cX7_init 14 = .ok (.aload_n 0, 1) := by decide +kernel
theorem dX7_init_15 : decode cX7_init 15 = .ok (.iload_n 3, 1) := by decide +kernel
theorem dX7_init_16 : decode cX7_init 16 = .ok (.putfield 16, 3) := by decide +kernel
theorem dX7_init_19 : decode cX7_init 19 = .ok (.aload_n 0, 1) := by decide +kernel
theorem dX7_init_20 : decode cX7_init 20 = .ok (.iload 4, 2) := by decide +kernel
theorem dX7_init_22 : decode cX7_init 22 = .ok (.putfield 19, 3) := by decide +kernel
theorem dX7_init_25 : decode cX7_init 25 = .ok (.return_, 1) := by decide +kernel
theorem dX7_fits_0 : decode cX7_fits 0 = .ok (.iload_n 2, 1) := by decide +kernel
theorem dX7_fits_1 : decode cX7_fits 1 = .ok (.aload_n 0, 1) := by decide +kernel
theorem dX7_fits_2 : decode cX7_fits 2 = .ok (.getfield 16, 3) := by decide +kernel
theorem dX7_fits_5 : decode cX7_fits 5 = .ok (.if_icmp .lt 59, 3) := by decide +kernel
theorem dX7_fits_8 : decode cX7_fits 8 = .ok (.iload_n 2, 1) := by decide +kernel
theorem dX7_fits_9 : decode cX7_fits 9 = .ok (.aload_n 0, 1) := by decide +kernel
theorem dX7_fits_10 : decode cX7_fits 10 = .ok (.getfield 19, 3) := by decide +kernel
theorem dX7_fits_13 : decode cX7_fits 13 = .ok (.if_icmp .gt 51, 3) := by decide +kernel
theorem dX7_fits_16 : decode cX7_fits 16 = .ok (.aload_n 0, 1) := by decide +kernel
theorem dX7_fits_17 : decode cX7_fits 17 = .ok (.getfield 7, 3) := by decide +kernel
theorem dX7_fits_20 : decode cX7_fits 20 = .ok (.iconst (-1), 1) := by decide +kernel
theorem dX7_fits_21 : decode cX7_fits 21 = .ok (.if_icmp .eq 17, 3) := by decide +kernel
theorem dX7_fits_24 : decode cX7_fits 24 = .ok (.aload_n 0, 1) := by decide +kernel
theorem dX7_fits_25 : decode cX7_fits 25 = .ok (.getfield 7, 3) := by decide +kernel
theorem dX7_fits_28 : decode cX7_fits 28 = .ok (.aload_n 1, 1) := by decide +kernel
theorem dX7_fits_29 : decode cX7_fits 29 = .ok (.getfield 22, 3) := by decide +kernel
theorem dX7_fits_32 : decode cX7_fits 32 = .ok (.getfield 28, 3) := by decide +kernel
theorem dX7_fits_35 : decode cX7_fits 35 = .ok (.if_icmp .ne 29, 3) := by decide +kernel
theorem dX7_fits_38 : decode cX7_fits 38 = .ok (.aload_n 0, 1) := by decide +kernel
theorem dX7_fits_39 : decode cX7_fits 39 = .ok (.getfield 13, 3) := by decide +kernel
theorem dX7_fits_42 : decode cX7_fits 42 = .ok (.iconst (-1), 1) := by decide +kernel
theorem dX7_fits_43 : decode cX7_fits 43 = .ok (.if_icmp .eq 17, 3) := by decide +kernel
theorem dX7_fits_46 : decode cX7_fits 46 = .ok (.aload_n 0, 1) := by decide +kernel
theorem dX7_fits_47 : decode cX7_fits 47 = .ok (.getfield 13, 3) := by decide +kernel
theorem dX7_fits_50 : decode cX7_fits 50 = .ok (.aload_n 1, 1) := by decide +kernel
theorem dX7_fits_51 : decode cX7_fits 51 = .ok (.getfield 31, 3) := by decide +kernel
theorem dX7_fits_54 : decode cX7_fits 54 = .ok (.getfield 34, 3) := by decide +kernel
theorem dX7_fits_57 : decode cX7_fits 57 = .ok (.if_icmp .ne 7, 3) := by decide +kernel
theorem dX7_fits_60 : decode cX7_fits 60 = .ok (.iconst 1, 1) := by decide +kernel
theorem dX7_fits_61 : decode cX7_fits 61 = .ok (.goto 4, 3) := by decide +kernel
theorem dX7_fits_64 : decode cX7_fits 64 = .ok (.iconst 0, 1) := by decide +kernel
theorem dX7_fits_65 : decode cX7_fits 65 = .ok (.ireturn, 1) := by decide +kernel
theorem dX8_init_0 : decode cX8_init 0 = .ok (.aload_n 0, 1) := by decide +kernel
theorem dX8_init_1 : decode cX8_init 1 = .ok (.invokespecial 3, 3) := by decide +kernel
theorem dX8_init_4 : decode cX8_init 4 = .ok (.aload_n 0, 1) := by decide +kernel
theorem dX8_init_5 : decode cX8_init 5 = .ok (.sipush 401, 3) := by decide +kernel
theorem dX8_init_8 : decode cX8_init 8 = .ok (.newarray .long, 2) := by decide +kernel
theorem dX8_init_10 : decode cX8_init 10 = .ok (.putfield 9, 3) := by decide +kernel
theorem dX8_init_13 : decode cX8_init 13 = .ok (.aload_n 0, 1) := by decide +kernel
theorem dX8_init_14 : decode cX8_init 14 = .ok (.sipush 401, 3) := by decide +kernel
theorem dX8_init_17 : decode cX8_init 17 = .ok (.newarray .boolean, 2) := by decide +kernel
theorem dX8_init_19 : decode cX8_init 19 = .ok (.putfield 15, 3) := by decide +kernel
theorem dX8_init_22 : decode cX8_init 22 = .ok (.aload_n 0, 1) := by decide +kernel
theorem dX8_init_23 : decode cX8_init 23 = .ok (.iload_n 1, 1) := by decide +kernel
theorem dX8_init_24 : decode cX8_init 24 = .ok (.putfield 19, 3) := by decide +kernel
theorem dX8_init_27 : decode cX8_init 27 = .ok (.aload_n 0, 1) := by decide +kernel
theorem dX8_init_28 : decode cX8_init 28 = .ok (.iload_n 2, 1) := by decide +kernel
theorem dX8_init_29 : decode cX8_init 29 = .ok (.putfield 23, 3) := by decide +kernel
theorem dX8_init_32 : decode cX8_init 32 = .ok (.return_, 1) := by decide +kernel
theorem dX8_hasAt_0 : decode cX8_hasAt 0 = .ok (.iload_n 1, 1) := by decide +kernel
theorem dX8_hasAt_1 : decode cX8_hasAt 1 = .ok (.iconst 1, 1) := by decide +kernel
theorem dX8_hasAt_2 : decode cX8_hasAt 2 = .ok (.if_icmp .lt 25, 3) := by decide +kernel
theorem dX8_hasAt_5 : decode cX8_hasAt 5 = .ok (.iload_n 1, 1) := by decide +kernel
theorem dX8_hasAt_6 : decode cX8_hasAt 6 = .ok (.aload_n 0, 1) := by decide +kernel
theorem dX8_hasAt_7 : decode cX8_hasAt 7 = .ok (.getfield 15, 3) := by decide +kernel
theorem dX8_hasAt_10 : decode cX8_hasAt 10 = .ok (.arraylength, 1) := by decide +kernel
theorem dX8_hasAt_11 : decode cX8_hasAt 11 = .ok (.if_icmp .ge 16, 3) := by decide +kernel
theorem dX8_hasAt_14 : decode cX8_hasAt 14 = .ok (.aload_n 0, 1) := by decide +kernel
theorem dX8_hasAt_15 : decode cX8_hasAt 15 = .ok (.getfield 15, 3) := by decide +kernel
theorem dX8_hasAt_18 : decode cX8_hasAt 18 = .ok (.iload_n 1, 1) := by decide +kernel
theorem dX8_hasAt_19 : decode cX8_hasAt 19 = .ok (.baload, 1) := by decide +kernel
theorem dX8_hasAt_20 : decode cX8_hasAt 20 = .ok (.ifCond .eq 7, 3) := by decide +kernel
theorem dX8_hasAt_23 : decode cX8_hasAt 23 = .ok (.iconst 1, 1) := by decide +kernel
theorem dX8_hasAt_24 : decode cX8_hasAt 24 = .ok (.goto 4, 3) := by decide +kernel
theorem dX8_hasAt_27 : decode cX8_hasAt 27 = .ok (.iconst 0, 1) := by decide +kernel
theorem dX8_hasAt_28 : decode cX8_hasAt 28 = .ok (.ireturn, 1) := by decide +kernel
theorem dX8_at_0 : decode cX8_at 0 = .ok (.aload_n 0, 1) := by decide +kernel
theorem dX8_at_1 : decode cX8_at 1 = .ok (.iload_n 1, 1) := by decide +kernel
theorem dX8_at_2 : decode cX8_at 2 = .ok (.invokevirtual 26, 3) := by decide +kernel
theorem dX8_at_5 : decode cX8_at 5 = .ok (.ifCond .eq 21, 3) := by decide +kernel
theorem dX8_at_8 : decode cX8_at 8 = .ok (.iload_n 1, 1) := by decide +kernel
theorem dX8_at_9 : decode cX8_at 9 = .ok (.aload_n 0, 1) := by decide +kernel
theorem dX8_at_10 : decode cX8_at 10 = .ok (.getfield 9, 3) := by decide +kernel
theorem dX8_at_13 : decode cX8_at 13 = .ok (.arraylength, 1) := by decide +kernel
theorem dX8_at_14 : decode cX8_at 14 = .ok (.if_icmp .ge 12, 3) := by decide +kernel
theorem dX8_at_17 : decode cX8_at 17 = .ok (.aload_n 0, 1) := by decide +kernel
theorem dX8_at_18 : decode cX8_at 18 = .ok (.getfield 9, 3) := by decide +kernel
theorem dX8_at_21 : decode cX8_at 21 = .ok (.iload_n 1, 1) := by decide +kernel
theorem dX8_at_22 : decode cX8_at 22 = .ok (.laload, 1) := by decide +kernel
theorem dX8_at_23 : decode cX8_at 23 = .ok (.goto 4, 3) := by decide +kernel
theorem dX8_at_26 : decode cX8_at 26 = .ok (.lconst 0, 1) := by decide +kernel
theorem dX8_at_27 : decode cX8_at 27 = .ok (.lreturn, 1) := by decide +kernel
theorem dX8_put_0 : decode cX8_put 0 = .ok (.iload_n 1, 1) := by decide +kernel
theorem dX8_put_1 : decode cX8_put 1 = .ok (.iconst 1, 1) := by decide +kernel
theorem dX8_put_2 : decode cX8_put 2 = .ok (.if_icmp .lt 35, 3) := by decide +kernel
theorem dX8_put_5 : decode cX8_put 5 = .ok (.iload_n 1, 1) := by decide +kernel
theorem dX8_put_6 : decode cX8_put 6 = .ok (.aload_n 0, 1) := by decide +kernel
theorem dX8_put_7 : decode cX8_put 7 = .ok (.getfield 15, 3) := by decide +kernel
theorem dX8_put_10 : decode cX8_put 10 = .ok (.arraylength, 1) := by decide +kernel
theorem dX8_put_11 : decode cX8_put 11 = .ok (.if_icmp .ge 26, 3) := by decide +kernel
theorem dX8_put_14 : decode cX8_put 14 = .ok (.iload_n 1, 1) := by decide +kernel
theorem dX8_put_15 : decode cX8_put 15 = .ok (.aload_n 0, 1) := by decide +kernel
theorem dX8_put_16 : decode cX8_put 16 = .ok (.getfield 9, 3) := by decide +kernel
theorem dX8_put_19 : decode cX8_put 19 = .ok (.arraylength, 1) := by decide +kernel
theorem dX8_put_20 : decode cX8_put 20 = .ok (.if_icmp .ge 17, 3) := by decide +kernel
theorem dX8_put_23 : decode cX8_put 23 = .ok (.aload_n 0, 1) := by decide +kernel
theorem dX8_put_24 : decode cX8_put 24 = .ok (.getfield 15, 3) := by decide +kernel
theorem dX8_put_27 : decode cX8_put 27 = .ok (.iload_n 1, 1) := by decide +kernel
theorem dX8_put_28 : decode cX8_put 28 = .ok (.iconst 1, 1) := by decide +kernel
theorem dX8_put_29 : decode cX8_put 29 = .ok (.bastore, 1) := by decide +kernel
theorem dX8_put_30 : decode cX8_put 30 = .ok (.aload_n 0, 1) := by decide +kernel
theorem dX8_put_31 : decode cX8_put 31 = .ok (.getfield 9, 3) := by decide +kernel
theorem dX8_put_34 : decode cX8_put 34 = .ok (.iload_n 1, 1) := by decide +kernel
theorem dX8_put_35 : decode cX8_put 35 = .ok (.lload_n 2, 1) := by decide +kernel
theorem dX8_put_36 : decode cX8_put 36 = .ok (.lastore, 1) := by decide +kernel
theorem dX8_put_37 : decode cX8_put 37 = .ok (.return_, 1) := by decide +kernel
theorem dX8_drop_0 : decode cX8_drop 0 = .ok (.iload_n 1, 1) := by decide +kernel
theorem dX8_drop_1 : decode cX8_drop 1 = .ok (.iconst 1, 1) := by decide +kernel
theorem dX8_drop_2 : decode cX8_drop 2 = .ok (.if_icmp .lt 19, 3) := by decide +kernel
theorem dX8_drop_5 : decode cX8_drop 5 = .ok (.iload_n 1, 1) := by decide +kernel
theorem dX8_drop_6 : decode cX8_drop 6 = .ok (.aload_n 0, 1) := by decide +kernel
theorem dX8_drop_7 : decode cX8_drop 7 = .ok (.getfield 15, 3) := by decide +kernel
theorem dX8_drop_10 : decode cX8_drop 10 = .ok (.arraylength, 1) := by decide +kernel
theorem dX8_drop_11 : decode cX8_drop 11 = .ok (.if_icmp .ge 10, 3) := by decide +kernel
theorem dX8_drop_14 : decode cX8_drop 14 = .ok (.aload_n 0, 1) := by decide +kernel
theorem dX8_drop_15 : decode cX8_drop 15 = .ok (.getfield 15, 3) := by decide +kernel
theorem dX8_drop_18 : decode cX8_drop 18 = .ok (.iload_n 1, 1) := by decide +kernel
theorem dX8_drop_19 : decode cX8_drop 19 = .ok (.iconst 0, 1) := by decide +kernel
theorem dX8_drop_20 : decode cX8_drop 20 = .ok (.bastore, 1) := by decide +kernel
theorem dX8_drop_21 : decode cX8_drop 21 = .ok (.return_, 1) := by decide +kernel
theorem dX8_isSilentIn_0 : decode cX8_isSilentIn 0 = .ok (.iload_n 1, 1) := by decide +kernel
theorem dX8_isSilentIn_1 : decode cX8_isSilentIn 1 = .ok (.istore_n 3, 1) := by decide +kernel
theorem dX8_isSilentIn_2 : decode cX8_isSilentIn 2 = .ok (.iload_n 3, 1) := by decide +kernel
theorem dX8_isSilentIn_3 : decode cX8_isSilentIn 3 = .ok (.iload_n 2, 1) := by decide +kernel
theorem dX8_isSilentIn_4 : decode cX8_isSilentIn 4 = .ok (.if_icmp .gt 19, 3) := by decide +kernel
theorem dX8_isSilentIn_7 : decode cX8_isSilentIn 7 = .ok (.aload_n 0, 1) := by decide +kernel
theorem dX8_isSilentIn_8 : decode cX8_isSilentIn 8 = .ok (.iload_n 3, 1) := by decide +kernel
theorem dX8_isSilentIn_9 : decode cX8_isSilentIn 9 = .ok (.invokevirtual 26, 3) := by decide +kernel
theorem dX8_isSilentIn_12 : decode cX8_isSilentIn 12 = .ok (.ifCond .eq 5, 3) := by decide +kernel
theorem dX8_isSilentIn_15 : decode cX8_isSilentIn 15 = .ok (.iconst 0, 1) := by decide +kernel
theorem dX8_isSilentIn_16 : decode cX8_isSilentIn 16 = .ok (.ireturn, 1) := by decide +kernel
theorem dX8_isSilentIn_17 : decode cX8_isSilentIn 17 = .ok (.iinc 3 1, 3) := by decide +kernel
theorem dX8_isSilentIn_20 : decode cX8_isSilentIn 20 = .ok (.goto (-18), 3) := by decide +kernel
theorem dX8_isSilentIn_23 : decode cX8_isSilentIn 23 = .ok (.iconst 1, 1) := by decide +kernel
theorem dX8_isSilentIn_24 : decode cX8_isSilentIn 24 = .ok (.ireturn, 1) := by decide +kernel
theorem dX9_init_0 : decode cX9_init 0 = .ok (.aload_n 0, 1) := by decide +kernel
theorem dX9_init_1 : decode cX9_init 1 = .ok (.invokespecial 1, 3) := by decide +kernel
theorem dX9_init_4 : decode cX9_init 4 = .ok (.aload_n 0, 1) := by decide +kernel
theorem dX9_init_5 : decode cX9_init 5 = .ok (.iload_n 1, 1) := by decide +kernel
theorem dX9_init_6 : decode cX9_init 6 = .ok (.putfield 7, 3) := by decide +kernel
theorem dX9_init_9 : decode cX9_init 9 = .ok (.aload_n 0, 1) := by decide +kernel
theorem dX9_init_10 : decode cX9_init 10 = .ok (.iload_n 2, 1) := by decide +kernel
theorem dX9_init_11 : decode cX9_init 11 = .ok (.putfield 13, 3) := by decide +kernel
theorem dX9_init_14 : decode cX9_init 14 = .ok (.aload_n 0, 1) := by decide +kernel
theorem dX9_init_15 : decode cX9_init 15 = .ok (.iload_n 3, 1) := by decide +kernel
theorem dX9_init_16 : decode cX9_init 16 = .ok (.putfield 16, 3) := by decide +kernel
theorem dX9_init_19 : decode cX9_init 19 = .ok (.aload_n 0, 1) := by decide +kernel
theorem dX9_init_20 : decode cX9_init 20 = .ok (.iload 4, 2) := by decide +kernel
theorem dX9_init_22 : decode cX9_init 22 = .ok (.putfield 19, 3) := by decide +kernel
theorem dX9_init_25 : decode cX9_init 25 = .ok (.return_, 1) := by decide +kernel
theorem dX9_covers_0 : decode cX9_covers 0 = .ok (.iload_n 1, 1) := by decide +kernel
theorem dX9_covers_1 : decode cX9_covers 1 = .ok (.aload_n 0, 1) := by decide +kernel
theorem dX9_covers_2 : decode cX9_covers 2 = .ok (.getfield 16, 3) := by decide +kernel
theorem dX9_covers_5 : decode cX9_covers 5 = .ok (.if_icmp .lt 15, 3) := by decide +kernel
theorem dX9_covers_8 : decode cX9_covers 8 = .ok (.iload_n 1, 1) := by decide +kernel
theorem dX9_covers_9 : decode cX9_covers 9 = .ok (.aload_n 0, 1) := by decide +kernel
theorem dX9_covers_10 : decode cX9_covers 10 = .ok (.getfield 19, 3) := by decide +kernel
theorem dX9_covers_13 : decode cX9_covers 13 = .ok (.if_icmp .gt 7, 3) := by decide +kernel
theorem dX9_covers_16 : decode cX9_covers 16 = .ok (.iconst 1, 1) := by decide +kernel
theorem dX9_covers_17 : decode cX9_covers 17 = .ok (.goto 4, 3) := by decide +kernel
theorem dX9_covers_20 : decode cX9_covers 20 = .ok (.iconst 0, 1) := by decide +kernel
theorem dX9_covers_21 : decode cX9_covers 21 = .ok (.ireturn, 1) := by decide +kernel
theorem dX10_init_0 : decode cX10_init 0 = .ok (.aload_n 0, 1) := by decide +kernel
theorem dX10_init_1 : decode cX10_init 1 = .ok (.invokespecial 3, 3) := by decide +kernel
theorem dX10_init_4 : decode cX10_init 4 = .ok (.aload_n 0, 1) := by decide +kernel
theorem dX10_init_5 : decode cX10_init 5 = .ok (.iconst (-1), 1) := by decide +kernel
theorem dX10_init_6 : decode cX10_init 6 = .ok (.putfield 9, 3) := by decide +kernel
theorem dX10_init_9 : decode cX10_init 9 = .ok (.aload_n 0, 1) := by decide +kernel
theorem dX10_init_10 : decode cX10_init 10 = .ok (.iconst (-1), 1) := by decide +kernel
theorem dX10_init_11 : decode cX10_init 11 = .ok (.putfield 15, 3) := by decide +kernel
theorem dX10_init_14 : decode cX10_init 14 = .ok (.aload_n 0, 1) := by decide +kernel
theorem dX10_init_15 : decode cX10_init 15 = .ok (.iconst 0, 1) := by decide +kernel
theorem dX10_init_16 : decode cX10_init 16 = .ok (.putfield 18, 3) := by decide +kernel
theorem dX10_init_19 : decode cX10_init 19 = .ok (.aload_n 0, 1) := by decide +kernel
theorem dX10_init_20 : decode cX10_init 20 = .ok (.iconst 0, 1) := by decide +kernel
theorem dX10_init_21 : decode cX10_init 21 = .ok (.putfield 21, 3) := by decide +kernel
theorem dX10_init_24 : decode cX10_init 24 = .ok (.aload_n 0, 1) := by decide +kernel
theorem dX10_init_25 : decode cX10_init 25 = .ok (.aconst_null, 1) := by decide +kernel
theorem dX10_init_26 : decode cX10_init 26 = .ok (.putfield 24, 3) := by decide +kernel
theorem dX10_init_29 : decode cX10_init 29 = .ok (.aload_n 0, 1) := by decide +kernel
theorem dX10_init_30 : decode cX10_init 30 = .ok (.bipush 11, 2) := by decide +kernel
theorem dX10_init_32 : decode cX10_init 32 = .ok (.newarray .boolean, 2) := by decide +kernel
theorem dX10_init_34 : decode cX10_init 34 = .ok (.putfield 28, 3) := by decide +kernel
theorem dX10_init_37 : decode cX10_init 37 = .ok (.return_, 1) := by decide +kernel
theorem dX10_note_0 : decode cX10_note 0 = .ok (.aload_n 0, 1) := by decide +kernel
theorem dX10_note_1 : decode cX10_note 1 = .ok (.iload_n 1, 1) := by decide +kernel
theorem dX10_note_2 : decode cX10_note 2 = .ok (.putfield 9, 3) := by decide +kernel
theorem dX10_note_5 : decode cX10_note 5 = .ok (.iload_n 1, 1) := by decide +kernel
theorem dX10_note_6 : decode cX10_note 6 = .ok (.iconst (-1), 1) := by decide +kernel
theorem dX10_note_7 : decode cX10_note 7 = .ok (.if_icmp .ne 4, 3) := by decide +kernel
theorem dX10_note_10 : decode cX10_note 10 = .ok (.return_, 1) := by decide +kernel
theorem dX10_note_11 : decode cX10_note 11 = .ok (.aload_n 0, 1) := by decide +kernel
theorem dX10_note_12 : decode cX10_note 12 = .ok (.iload_n 1, 1) := by decide +kernel
theorem dX10_note_13 : decode cX10_note 13 = .ok (.putfield 15, 3) := by decide +kernel
theorem dX10_note_16 : decode cX10_note 16 = .ok (.aload_n 0, 1) := by decide +kernel
theorem dX10_note_17 : decode cX10_note 17 = .ok (.iload_n 1, 1) := by decide +kernel
theorem dX10_note_18 : decode cX10_note 18 = .ok (.iconst 1, 1) := by decide +kernel
theorem dX10_note_19 : decode cX10_note 19 = .ok (.if_icmp .ne 12, 3) := by decide +kernel
theorem dX10_note_22 : decode cX10_note 22 = .ok (.aload_n 0, 1) := by decide +kernel
theorem dX10_note_23 : decode cX10_note 23 = .ok (.getfield 18, 3) := by decide +kernel
theorem dX10_note_26 : decode cX10_note 26 = .ok (.iconst 1, 1) := by decide +kernel
theorem dX10_note_27 : decode cX10_note 27 = .ok (.iadd, 1) := by decide +kernel
theorem dX10_note_28 : decode cX10_note 28 = .ok (.goto 4, 3) := by decide +kernel
theorem dX10_note_31 : decode cX10_note 31 = .ok (.iconst 0, 1) := by decide +kernel
theorem dX10_note_32 : decode cX10_note 32 = .ok (.putfield 18, 3) := by decide +kernel
theorem dX10_note_35 : decode cX10_note 35 = .ok (.aload_n 0, 1) := by decide +kernel
theorem dX10_note_36 : decode cX10_note 36 = .ok (.iload_n 1, 1) := by decide +kernel
theorem dX10_note_37 : decode cX10_note 37 = .ok (.iconst 1, 1) := by decide +kernel
theorem dX10_note_38 : decode cX10_note 38 = .ok (.if_icmp .ne 7, 3) := by decide +kernel
theorem dX10_note_41 : decode cX10_note 41 = .ok (.iconst 0, 1) := by decide +kernel
theorem dX10_note_42 : decode cX10_note 42 = .ok (.goto 9, 3) := by decide +kernel
theorem dX10_note_45 : decode cX10_note 45 = .ok (.aload_n 0, 1) := by decide +kernel
theorem dX10_note_46 : decode cX10_note 46 = .ok (.getfield 21, 3) := by decide +kernel
theorem dX10_note_49 : decode cX10_note 49 = .ok (.iconst 1, 1) := by decide +kernel
theorem dX10_note_50 : decode cX10_note 50 = .ok (.iadd, 1) := by decide +kernel
theorem dX10_note_51 : decode cX10_note 51 = .ok (.putfield 21, 3) := by decide +kernel
theorem dX10_note_54 : decode cX10_note 54 = .ok (.return_, 1) := by decide +kernel
theorem dX11_init_0 : decode cX11_init 0 = .ok (.aload_n 0, 1) := by decide +kernel
theorem dX11_init_1 : decode cX11_init 1 = .ok (.invokespecial 1, 3) := by decide +kernel
theorem dX11_init_4 : decode cX11_init 4 = .ok (.aload_n 0, 1) := by decide +kernel
theorem dX11_init_5 : decode cX11_init 5 = .ok (.new 7, 3) := by decide +kernel
theorem dX11_init_8 : decode cX11_init 8 = .ok (.dup, 1) := by decide +kernel
theorem dX11_init_9 : decode cX11_init 9 = .ok (.invokespecial 9, 3) := by decide +kernel
theorem dX11_init_12 : decode cX11_init 12 = .ok (.putfield 10, 3) := by decide +kernel
theorem dX11_init_15 : decode cX11_init 15 = .ok (.aload_n 0, 1) := by decide +kernel
theorem dX11_init_16 : decode cX11_init 16 = .ok (.new 7, 3) := by decide +kernel
theorem dX11_init_19 : decode cX11_init 19 = .ok (.dup, 1) := by decide +kernel
theorem dX11_init_20 : decode cX11_init 20 = .ok (.invokespecial 9, 3) := by decide +kernel
theorem dX11_init_23 : decode cX11_init 23 = .ok (.putfield 16, 3) := by decide +kernel
theorem dX11_init_26 : decode cX11_init 26 = .ok (.aload_n 0, 1) := by decide +kernel
theorem dX11_init_27 : decode cX11_init 27 = .ok (.new 7, 3) := by decide +kernel
theorem dX11_init_30 : decode cX11_init 30 = .ok (.dup, 1) := by decide +kernel
theorem dX11_init_31 : decode cX11_init 31 = .ok (.invokespecial 9, 3) := by decide +kernel
theorem dX11_init_34 : decode cX11_init 34 = .ok (.putfield 19, 3) := by decide +kernel
theorem dX11_init_37 : decode cX11_init 37 = .ok (.aload_n 0, 1) := by decide +kernel
theorem dX11_init_38 : decode cX11_init 38 = .ok (.new 7, 3) := by decide +kernel
theorem dX11_init_41 : decode cX11_init 41 = .ok (.dup, 1) := by decide +kernel
theorem dX11_init_42 : decode cX11_init 42 = .ok (.invokespecial 9, 3) := by decide +kernel
theorem dX11_init_45 : decode cX11_init 45 = .ok (.putfield 22, 3) := by decide +kernel
theorem dX11_init_48 : decode cX11_init 48 = .ok (.aload_n 0, 1) := by decide +kernel
theorem dX11_init_49 : decode cX11_init 49 = .ok (.new 7, 3) := by decide +kernel
theorem dX11_init_52 : decode cX11_init 52 = .ok (.dup, 1) := by decide +kernel
theorem dX11_init_53 : decode cX11_init 53 = .ok (.invokespecial 9, 3) := by decide +kernel
theorem dX11_init_56 : decode cX11_init 56 = .ok (.putfield 25, 3) := by decide +kernel
theorem dX11_init_59 : decode cX11_init 59 = .ok (.aload_n 0, 1) := by decide +kernel
theorem dX11_init_60 : decode cX11_init 60 = .ok (.new 7, 3) := by decide +kernel
theorem dX11_init_63 : decode cX11_init 63 = .ok (.dup, 1) := by decide +kernel
theorem dX11_init_64 : decode cX11_init 64 = .ok (.invokespecial 9, 3) := by decide +kernel
theorem dX11_init_67 : decode cX11_init 67 = .ok (.putfield 28, 3) := by decide +kernel
theorem dX11_init_70 : decode cX11_init 70 = .ok (.aload_n 0, 1) := by decide +kernel
theorem dX11_init_71 : decode cX11_init 71 = .ok (.bipush 8, 2) := by decide +kernel
theorem dX11_init_73 : decode cX11_init 73 = .ok (.anewarray 31, 3) := by decide +kernel
theorem dX11_init_76 : decode cX11_init 76 = .ok (.putfield 33, 3) := by decide +kernel
theorem dX11_init_79 : decode cX11_init 79 = .ok (.aload_n 0, 1) := by decide +kernel
theorem dX11_init_80 : decode cX11_init 80 = .ok (.new 37, 3) := by decide +kernel
theorem dX11_init_83 : decode cX11_init 83 = .ok (.dup, 1) := by decide +kernel
theorem dX11_init_84 : decode cX11_init 84 = .ok (.invokespecial 39, 3) := by decide +kernel
theorem dX11_init_87 : decode cX11_init 87 = .ok (.putfield 40, 3) := by decide +kernel
theorem dX11_init_90 : decode cX11_init 90 = .ok (.aload_n 0, 1) := by decide +kernel
theorem dX11_init_91 : decode cX11_init 91 = .ok (.bipush 8, 2) := by decide +kernel
theorem dX11_init_93 : decode cX11_init 93 = .ok (.newarray .int, 2) := by decide +kernel
theorem dX11_init_95 : decode cX11_init 95 = .ok (.putfield 44, 3) := by decide +kernel
theorem dX11_init_98 : decode cX11_init 98 = .ok (.aload_n 0, 1) := by decide +kernel
theorem dX11_init_99 : decode cX11_init 99 = .ok (.iconst 0, 1) := by decide +kernel
theorem dX11_init_100 : decode cX11_init 100 = .ok (.putfield 48, 3) := by decide +kernel
theorem dX11_init_103 : decode cX11_init 103 = .ok (.aload_n 0, 1) := by decide +kernel
theorem dX11_init_104 : decode cX11_init 104 = .ok (.iconst 1, 1) := by decide +kernel
theorem dX11_init_105 : decode cX11_init 105 = .ok (.putfield 52, 3) := by decide +kernel
theorem dX11_init_108 : decode cX11_init 108 = .ok (.aload_n 0, 1) := by decide +kernel
theorem dX11_init_109 : decode cX11_init 109 = .ok (.iconst 2, 1) := by decide +kernel
theorem dX11_init_110 : decode cX11_init 110 = .ok (.putfield 55, 3) := by decide +kernel
theorem dX11_init_113 : decode cX11_init 113 = .ok (.aload_n 0, 1) := by decide +kernel
theorem dX11_init_114 : decode cX11_init 114 = .ok (.iconst 5, 1) := by decide +kernel
theorem dX11_init_115 : decode cX11_init 115 = .ok (.putfield 58, 3) := by decide +kernel
theorem dX11_init_118 : decode cX11_init 118 = .ok (.aload_n 0, 1) := by decide +kernel
theorem dX11_init_119 : decode cX11_init 119 = .ok (.bipush 20, 2) := by decide +kernel
theorem dX11_init_121 : decode cX11_init 121 = .ok (.putfield 61, 3) := by decide +kernel
theorem dX11_init_124 : decode cX11_init 124 = .ok (.aload_n 0, 1) := by decide +kernel
theorem dX11_init_125 : decode cX11_init 125 = .ok (.iconst 3, 1) := by decide +kernel
theorem dX11_init_126 : decode cX11_init 126 = .ok (.putfield 64, 3) := by decide +kernel
theorem dX11_init_129 : decode cX11_init 129 = .ok (.aload_n 0, 1) := by decide +kernel
theorem dX11_init_130 : decode cX11_init 130 = .ok (.iconst 0, 1) := by decide +kernel
theorem dX11_init_131 : decode cX11_init 131 = .ok (.putfield 67, 3) := by decide +kernel
theorem dX11_init_134 : decode cX11_init 134 = .ok (.iconst 0, 1) := by decide +kernel
theorem dX11_init_135 : decode cX11_init 135 = .ok (.istore_n 1, 1) := by decide +kernel
theorem dX11_init_136 : decode cX11_init 136 = .ok (.iload_n 1, 1) := by decide +kernel
theorem dX11_init_137 : decode cX11_init 137 = .ok (.bipush 8, 2) := by decide +kernel
theorem dX11_init_139 : decode cX11_init 139 = .ok (.if_icmp .ge 22, 3) := by decide +kernel
theorem dX11_init_142 : decode cX11_init 142 = .ok (.aload_n 0, 1) := by decide +kernel
theorem dX11_init_143 : decode cX11_init 143 = .ok (.getfield 33, 3) := by decide +kernel
theorem dX11_init_146 : decode cX11_init 146 = .ok (.iload_n 1, 1) := by decide +kernel
theorem dX11_init_147 : decode cX11_init 147 = .ok (.new 31, 3) := by decide +kernel
theorem dX11_init_150 : decode cX11_init 150 = .ok (.dup, 1) := by decide +kernel
theorem dX11_init_151 : decode cX11_init 151 = .ok (.invokespecial 70, 3) := by decide +kernel
theorem dX11_init_154 : decode cX11_init 154 = .ok (.aastore, 1) := by decide +kernel
theorem dX11_init_155 : decode cX11_init 155 = .ok (.iinc 1 1, 3) := by decide +kernel
theorem dX11_init_158 : decode cX11_init 158 = .ok (.goto (-22), 3) := by decide +kernel
theorem dX11_init_161 : decode cX11_init 161 = .ok (.return_, 1) := by decide +kernel
theorem dX11_source_0 : decode cX11_source 0 = .ok (.iload_n 1, 1) := by decide +kernel
theorem dX11_source_1 : decode cX11_source 1 = .ok (.iconst 0, 1) := by decide +kernel
theorem dX11_source_2 : decode cX11_source 2 = .ok (.bipush 9, 2) := by decide +kernel
theorem dX11_source_4 : decode cX11_source 4 = .ok (.invokestatic 71, 3) := by decide +kernel
theorem dX11_source_7 : decode cX11_source 7 = .ok (.ifCond .ne 5, 3) := by decide +kernel
theorem dX11_source_10 : decode cX11_source 10 = .ok (.iconst (-1), 1) := by decide +kernel
theorem dX11_source_11 : decode cX11_source 11 = .ok (.ireturn, 1) := by decide +kernel
theorem dX11_source_12 : decode cX11_source 12 = .ok (.aload_n 0, 1) := by decide +kernel
theorem dX11_source_13 : decode cX11_source 13 = .ok (.getfield 10, 3) := by decide +kernel
theorem dX11_source_16 : decode cX11_source 16 = .ok (.invokevirtual 75, 3) := by decide +kernel
theorem dX11_source_19 : decode cX11_source 19 = .ok (.bipush 16, 2) := by decide +kernel
theorem dX11_source_21 : decode cX11_source 21 = .ok (.if_icmp .lt 6, 3) := by decide +kernel
theorem dX11_source_24 : decode cX11_source 24 = .ok (.bipush (-2), 2) := by decide +kernel
theorem dX11_source_26 : decode cX11_source 26 = .ok (.ireturn, 1) := by decide +kernel
theorem dX11_source_27 : decode cX11_source 27 = .ok (.aload_n 0, 1) := by decide +kernel
theorem dX11_source_28 : decode cX11_source 28 = .ok (.getfield 10, 3) := by decide +kernel
theorem dX11_source_31 : decode cX11_source 31 = .ok (.new 79, 3) := by decide +kernel
theorem dX11_source_34 : decode cX11_source 34 = .ok (.dup, 1) := by decide +kernel
theorem dX11_source_35 : decode cX11_source 35 = .ok (.aload_n 0, 1) := by decide +kernel
theorem dX11_source_36 : decode cX11_source 36 = .ok (.getfield 10, 3) := by decide +kernel
theorem dX11_source_39 : decode cX11_source 39 = .ok (.invokevirtual 75, 3) := by decide +kernel
theorem dX11_source_42 : decode cX11_source 42 = .ok (.iload_n 1, 1) := by decide +kernel
theorem dX11_source_43 : decode cX11_source 43 = .ok (.invokespecial 81, 3) := by decide +kernel
theorem dX11_source_46 : decode cX11_source 46 = .ok (.invokevirtual 84, 3) := by decide +kernel
theorem dX11_source_49 : decode cX11_source 49 = .ok (.pop, 1) := by decide +kernel
theorem dX11_source_50 : decode cX11_source 50 = .ok (.aload_n 0, 1) := by decide +kernel
theorem dX11_source_51 : decode cX11_source 51 = .ok (.getfield 10, 3) := by decide +kernel
theorem dX11_source_54 : decode cX11_source 54 = .ok (.invokevirtual 75, 3) := by decide +kernel
theorem dX11_source_57 : decode cX11_source 57 = .ok (.iconst 1, 1) := by decide +kernel
theorem dX11_source_58 : decode cX11_source 58 = .ok (.isub, 1) := by decide +kernel
theorem dX11_source_59 : decode cX11_source 59 = .ok (.ireturn, 1) := by decide +kernel
theorem dX11_rule_0 : decode cX11_rule 0 = .ok (.iload_n 1, 1) := by decide +kernel
theorem dX11_rule_1 : decode cX11_rule 1 = .ok (.ifCond .lt 19, 3) := by decide +kernel
theorem dX11_rule_4 : decode cX11_rule 4 = .ok (.iload 5, 2) := by decide +kernel
theorem dX11_rule_6 : decode cX11_rule 6 = .ok (.ifCond .lt 14, 3) := by decide +kernel
theorem dX11_rule_9 : decode cX11_rule 9 = .ok (.iload 6, 2) := by decide +kernel
theorem dX11_rule_11 : decode cX11_rule 11 = .ok (.iconst (-1), 1) := by decide +kernel
theorem dX11_rule_12 : decode cX11_rule 12 = .ok (.bipush 9, 2) := by decide +kernel
theorem dX11_rule_14 : decode cX11_rule 14 = .ok (.invokestatic 71, 3) := by decide +kernel
theorem dX11_rule_17 : decode cX11_rule 17 = .ok (.ifCond .ne 5, 3) := by decide +kernel
theorem dX11_rule_20 : decode cX11_rule 20 = .ok (.iconst (-1), 1) := by decide +kernel
theorem dX11_rule_21 : decode cX11_rule 21 = .ok (.ireturn, 1) := by decide +kernel
theorem dX11_rule_22 : decode cX11_rule 22 = .ok (.aload_n 0, 1) := by decide +kernel
theorem dX11_rule_23 : decode cX11_rule 23 = .ok (.iload_n 1, 1) := by decide +kernel
theorem dX11_rule_24 : decode cX11_rule 24 = .ok (.bipush 100, 2) := by decide +kernel
theorem dX11_rule_26 : decode cX11_rule 26 = .ok (.irem, 1) := by decide +kernel
theorem dX11_rule_27 : decode cX11_rule 27 = .ok (.iload_n 1, 1) := by decide +kernel
theorem dX11_rule_28 : decode cX11_rule 28 = .ok (.bipush 100, 2) := by decide +kernel
theorem dX11_rule_30 : decode cX11_rule 30 = .ok (.idiv, 1) := by decide +kernel
theorem dX11_rule_31 : decode cX11_rule 31 = .ok (.lload_n 2, 1) := by decide +kernel
theorem dX11_rule_32 : decode cX11_rule 32 = .ok (.iload 4, 2) := by decide +kernel
theorem dX11_rule_34 : decode cX11_rule 34 = .ok (.invokevirtual 88, 3) := by decide +kernel
theorem dX11_rule_37 : decode cX11_rule 37 = .ok (.ifCond .eq 11, 3) := by decide +kernel
theorem dX11_rule_40 : decode cX11_rule 40 = .ok (.iload 5, 2) := by decide +kernel
theorem dX11_rule_42 : decode cX11_rule 42 = .ok (.invokestatic 92, 3) := by decide +kernel
theorem dX11_rule_45 : decode cX11_rule 45 = .ok (.ifCond .ne 5, 3) := by decide +kernel
theorem dX11_rule_48 : decode cX11_rule 48 = .ok (.iconst (-1), 1) := by decide +kernel
theorem dX11_rule_49 : decode cX11_rule 49 = .ok (.ireturn, 1) := by decide +kernel
theorem dX11_rule_50 : decode cX11_rule 50 = .ok (.aload_n 0, 1) := by decide +kernel
theorem dX11_rule_51 : decode cX11_rule 51 = .ok (.getfield 16, 3) := by decide +kernel
theorem dX11_rule_54 : decode cX11_rule 54 = .ok (.invokevirtual 75, 3) := by decide +kernel
theorem dX11_rule_57 : decode cX11_rule 57 = .ok (.bipush 16, 2) := by decide +kernel
theorem dX11_rule_59 : decode cX11_rule 59 = .ok (.if_icmp .lt 6, 3) := by decide +kernel
theorem dX11_rule_62 : decode cX11_rule 62 = .ok (.bipush (-2), 2) := by decide +kernel
theorem dX11_rule_64 : decode cX11_rule 64 = .ok (.ireturn, 1) := by decide +kernel
theorem dX11_rule_65 : decode cX11_rule 65 = .ok (.new 96, 3) := by decide +kernel
theorem dX11_rule_68 : decode cX11_rule 68 = .ok (.dup, 1) := by decide +kernel
theorem dX11_rule_69 : decode cX11_rule 69 = .ok (.aload_n 0, 1) := by decide +kernel
theorem dX11_rule_70 : decode cX11_rule 70 = .ok (.getfield 16, 3) := by decide +kernel
theorem dX11_rule_73 : decode cX11_rule 73 = .ok (.invokevirtual 75, 3) := by decide +kernel
theorem dX11_rule_76 : decode cX11_rule 76 = .ok (.iload_n 1, 1) := by decide +kernel
theorem dX11_rule_77 : decode cX11_rule 77 = .ok (.lload_n 2, 1) := by decide +kernel
theorem dX11_rule_78 : decode cX11_rule 78 = .ok (.iload 4, 2) := by decide +kernel
theorem dX11_rule_80 : decode cX11_rule 80 = .ok (.iload 5, 2) := by decide +kernel
theorem dX11_rule_82 : decode cX11_rule 82 = .ok (.iload 6, 2) := by decide +kernel
theorem dX11_rule_84 : decode cX11_rule 84 = .ok (.invokespecial 98, 3) := by decide +kernel
theorem dX11_rule_87 : decode cX11_rule 87 = .ok (.astore 7, 2) := by decide +kernel
theorem dX11_rule_89 : decode cX11_rule 89 = .ok (.aload_n 0, 1) := by decide +kernel
theorem dX11_rule_90 : decode cX11_rule 90 = .ok (.getfield 16, 3) := by decide +kernel
theorem dX11_rule_93 : decode cX11_rule 93 = .ok (.aload 7, 2) := by decide +kernel
theorem dX11_rule_95 : decode cX11_rule 95 = .ok (.invokevirtual 84, 3) := by decide +kernel
theorem dX11_rule_98 : decode cX11_rule 98 = .ok (.pop, 1) := by decide +kernel
theorem dX11_rule_99 : decode cX11_rule 99 = .ok (.aload 7, 2) := by decide +kernel
theorem dX11_rule_101 : decode cX11_rule 101 = .ok (.getfield 101, 3) := by decide +kernel
theorem dX11_rule_104 : decode cX11_rule 104 = .ok (.ireturn, 1) := by decide +kernel
theorem dX11_isLook_0 : decode cX11_isLook 0 = .ok (.iload_n 1, 1) := by decide +kernel
theorem dX11_isLook_1 : decode cX11_isLook 1 = .ok (.iconst 2, 1) := by decide +kernel
theorem dX11_isLook_2 : decode cX11_isLook 2 = .ok (.if_icmp .lt 20, 3) := by decide +kernel
theorem dX11_isLook_5 : decode cX11_isLook 5 = .ok (.iload_n 1, 1) := by decide +kernel
theorem dX11_isLook_6 : decode cX11_isLook 6 = .ok (.iconst 5, 1) := by decide +kernel
theorem dX11_isLook_7 : decode cX11_isLook 7 = .ok (.if_icmp .gt 15, 3) := by decide +kernel
theorem dX11_isLook_10 : decode cX11_isLook 10 = .ok (.iload_n 2, 1) := by decide +kernel
theorem dX11_isLook_11 : decode cX11_isLook 11 = .ok (.iconst 1, 1) := by decide +kernel
theorem dX11_isLook_12 : decode cX11_isLook 12 = .ok (.bipush 20, 2) := by decide +kernel
theorem dX11_isLook_14 : decode cX11_isLook 14 = .ok (.invokestatic 71, 3) := by decide +kernel
theorem dX11_isLook_17 : decode cX11_isLook 17 = .ok (.ifCond .ne 5, 3) := by decide +kernel
theorem dX11_isLook_20 : decode cX11_isLook 20 = .ok (.iconst 0, 1) := by decide +kernel
theorem dX11_isLook_21 : decode cX11_isLook 21 = .ok (.ireturn, 1) := by decide +kernel
theorem dX11_isLook_22 : decode cX11_isLook 22 = .ok (.iload_n 1, 1) := by decide +kernel
theorem dX11_isLook_23 : decode cX11_isLook 23 = .ok (.tableswitch 108 0 6 #[41, 43, 41, 57, 41, 41, 66], 41) := by decide +kernel
theorem dX11_isLook_64 : decode cX11_isLook 64 = .ok (.iconst 1, 1) := by decide +kernel
theorem dX11_isLook_65 : decode cX11_isLook 65 = .ok (.ireturn, 1) := by decide +kernel
theorem dX11_isLook_66 : decode cX11_isLook 66 = .ok (.iload 5, 2) := by decide +kernel
theorem dX11_isLook_68 : decode cX11_isLook 68 = .ok (.i2l, 1) := by decide +kernel
theorem dX11_isLook_69 : decode cX11_isLook 69 = .ok (.lload_n 3, 1) := by decide +kernel
theorem dX11_isLook_70 : decode cX11_isLook 70 = .ok (.lcmp, 1) := by decide +kernel
theorem dX11_isLook_71 : decode cX11_isLook 71 = .ok (.ifCond .gt 7, 3) := by decide +kernel
theorem dX11_isLook_74 : decode cX11_isLook 74 = .ok (.iconst 1, 1) := by decide +kernel
theorem dX11_isLook_75 : decode cX11_isLook 75 = .ok (.goto 4, 3) := by decide +kernel
theorem dX11_isLook_78 : decode cX11_isLook 78 = .ok (.iconst 0, 1) := by decide +kernel
theorem dX11_isLook_79 : decode cX11_isLook 79 = .ok (.ireturn, 1) := by decide +kernel
theorem dX11_isLook_80 : decode cX11_isLook 80 = .ok (.iload 5, 2) := by decide +kernel
theorem dX11_isLook_82 : decode cX11_isLook 82 = .ok (.iconst 1, 1) := by decide +kernel
theorem dX11_isLook_83 : decode cX11_isLook 83 = .ok (.bipush 100, 2) := by decide +kernel
theorem dX11_isLook_85 : decode cX11_isLook 85 = .ok (.invokestatic 71, 3) := by decide +kernel
theorem dX11_isLook_88 : decode cX11_isLook 88 = .ok (.ireturn, 1) := by decide +kernel
theorem dX11_isLook_89 : decode cX11_isLook 89 = .ok (.lload_n 3, 1) := by decide +kernel
theorem dX11_isLook_90 : decode cX11_isLook 90 = .ok (.lconst 0, 1) := by decide +kernel
theorem dX11_isLook_91 : decode cX11_isLook 91 = .ok (.lcmp, 1) := by decide +kernel
theorem dX11_isLook_92 : decode cX11_isLook 92 = .ok (.ifCond .lt 37, 3) := by decide +kernel
theorem dX11_isLook_95 : decode cX11_isLook 95 = .ok (.lload_n 3, 1) := by decide +kernel
theorem dX11_isLook_96 : decode cX11_isLook 96 = .ok (.aload_n 0, 1) := by decide +kernel
theorem dX11_isLook_97 : decode cX11_isLook 97 = .ok (.getfield 16, 3) := by decide +kernel
theorem dX11_isLook_100 : decode cX11_isLook 100 = .ok (.invokevirtual 75, 3) := by decide +kernel
theorem dX11_isLook_103 : decode cX11_isLook 103 = .ok (.i2l, 1) := by decide +kernel
theorem dX11_isLook_104 : decode cX11_isLook 104 = .ok (.lcmp, 1) := by decide +kernel
theorem dX11_isLook_105 : decode cX11_isLook 105 = .ok (.ifCond .ge 24, 3) := by decide +kernel
theorem dX11_isLook_108 : decode cX11_isLook 108 = .ok (.iload 5, 2) := by decide +kernel
theorem dX11_isLook_110 : decode cX11_isLook 110 = .ok (.ifCond .lt 19, 3) := by decide +kernel
theorem dX11_isLook_113 : decode cX11_isLook 113 = .ok (.iload 5, 2) := by decide +kernel
theorem dX11_isLook_115 : decode cX11_isLook 115 = .ok (.aload_n 0, 1) := by decide +kernel
theorem dX11_isLook_116 : decode cX11_isLook 116 = .ok (.getfield 16, 3) := by decide +kernel
theorem dX11_isLook_119 : decode cX11_isLook 119 = .ok (.invokevirtual 75, 3) := by decide +kernel
theorem dX11_isLook_122 : decode cX11_isLook 122 = .ok (.if_icmp .ge 7, 3) := by decide +kernel
theorem dX11_isLook_125 : decode cX11_isLook 125 = .ok (.iconst 1, 1) := by decide +kernel
theorem dX11_isLook_126 : decode cX11_isLook 126 = .ok (.goto 4, 3) := by decide +kernel
theorem dX11_isLook_129 : decode cX11_isLook 129 = .ok (.iconst 0, 1) := by decide +kernel
theorem dX11_isLook_130 : decode cX11_isLook 130 = .ok (.ireturn, 1) := by decide +kernel
theorem dX11_isLook_131 : decode cX11_isLook 131 = .ok (.iconst 0, 1) := by decide +kernel
theorem dX11_isLook_132 : decode cX11_isLook 132 = .ok (.ireturn, 1) := by decide +kernel
theorem dX11_isManner_0 : decode cX11_isManner 0 = .ok (.iload_n 0, 1) := by decide +kernel
theorem dX11_isManner_1 : decode cX11_isManner 1 = .ok (.bipush 100, 2) := by decide +kernel
theorem dX11_isManner_3 : decode cX11_isManner 3 = .ok (.irem, 1) := by decide +kernel
theorem dX11_isManner_4 : decode cX11_isManner 4 = .ok (.iconst 1, 1) := by decide +kernel
theorem dX11_isManner_5 : decode cX11_isManner 5 = .ok (.bipush 10, 2) := by decide +kernel
theorem dX11_isManner_7 : decode cX11_isManner 7 = .ok (.invokestatic 71, 3) := by decide +kernel
theorem dX11_isManner_10 : decode cX11_isManner 10 = .ok (.ifCond .eq 36, 3) := by decide +kernel
theorem dX11_isManner_13 : decode cX11_isManner 13 = .ok (.iload_n 0, 1) := by decide +kernel
theorem dX11_isManner_14 : decode cX11_isManner 14 = .ok (.bipush 100, 2) := by decide +kernel
theorem dX11_isManner_16 : decode cX11_isManner 16 = .ok (.idiv, 1) := by decide +kernel
theorem dX11_isManner_17 : decode cX11_isManner 17 = .ok (.bipush 100, 2) := by decide +kernel
theorem dX11_isManner_19 : decode cX11_isManner 19 = .ok (.irem, 1) := by decide +kernel
theorem dX11_isManner_20 : decode cX11_isManner 20 = .ok (.iconst 1, 1) := by decide +kernel
theorem dX11_isManner_21 : decode cX11_isManner 21 = .ok (.bipush 10, 2) := by decide +kernel
theorem dX11_isManner_23 : decode cX11_isManner 23 = .ok (.invokestatic 71, 3) := by decide +kernel
theorem dX11_isManner_26 : decode cX11_isManner 26 = .ok (.ifCond .eq 20, 3) := by decide +kernel
theorem dX11_isManner_29 : decode cX11_isManner 29 = .ok (.iload_n 0, 1) := by decide +kernel
theorem dX11_isManner_30 : decode cX11_isManner 30 = .ok (.sipush 10000, 3) := by decide +kernel
theorem dX11_isManner_33 : decode cX11_isManner 33 = .ok (.idiv, 1) := by decide +kernel
theorem dX11_isManner_34 : decode cX11_isManner 34 = .ok (.iconst 1, 1) := by decide +kernel
theorem dX11_isManner_35 : decode cX11_isManner 35 = .ok (.iconst 5, 1) := by decide +kernel
theorem dX11_isManner_36 : decode cX11_isManner 36 = .ok (.invokestatic 71, 3) := by decide +kernel
theorem dX11_isManner_39 : decode cX11_isManner 39 = .ok (.ifCond .eq 7, 3) := by decide +kernel
theorem dX11_isManner_42 : decode cX11_isManner 42 = .ok (.iconst 1, 1) := by decide +kernel
theorem dX11_isManner_43 : decode cX11_isManner 43 = .ok (.goto 4, 3) := by decide +kernel
theorem dX11_isManner_46 : decode cX11_isManner 46 = .ok (.iconst 0, 1) := by decide +kernel
theorem dX11_isManner_47 : decode cX11_isManner 47 = .ok (.ireturn, 1) := by decide +kernel
theorem dX11_hold_0 : decode cX11_hold 0 = .ok (.aload_n 0, 1) := by decide +kernel
theorem dX11_hold_1 : decode cX11_hold 1 = .ok (.iload_n 1, 1) := by decide +kernel
theorem dX11_hold_2 : decode cX11_hold 2 = .ok (.invokevirtual 104, 3) := by decide +kernel
theorem dX11_hold_5 : decode cX11_hold 5 = .ok (.astore 4, 2) := by decide +kernel
theorem dX11_hold_7 : decode cX11_hold 7 = .ok (.aload_n 0, 1) := by decide +kernel
theorem dX11_hold_8 : decode cX11_hold 8 = .ok (.iload_n 2, 1) := by decide +kernel
theorem dX11_hold_9 : decode cX11_hold 9 = .ok (.invokevirtual 104, 3) := by decide +kernel
theorem dX11_hold_12 : decode cX11_hold 12 = .ok (.astore 5, 2) := by decide +kernel
theorem dX11_hold_14 : decode cX11_hold 14 = .ok (.aload 4, 2) := by decide +kernel
theorem dX11_hold_16 : decode cX11_hold 16 = .ok (.ifnull 22, 3) := by decide +kernel
theorem dX11_hold_19 : decode cX11_hold 19 = .ok (.aload 5, 2) := by decide +kernel
theorem dX11_hold_21 : decode cX11_hold 21 = .ok (.ifnull 17, 3) := by decide +kernel
theorem dX11_hold_24 : decode cX11_hold 24 = .ok (.iload_n 1, 1) := by decide +kernel
theorem dX11_hold_25 : decode cX11_hold 25 = .ok (.iload_n 2, 1) := by decide +kernel
theorem dX11_hold_26 : decode cX11_hold 26 = .ok (.if_icmp .eq 12, 3) := by decide +kernel
theorem dX11_hold_29 : decode cX11_hold 29 = .ok (.iload_n 3, 1) := by decide +kernel
theorem dX11_hold_30 : decode cX11_hold 30 = .ok (.iconst 0, 1) := by decide +kernel
theorem dX11_hold_31 : decode cX11_hold 31 = .ok (.iconst 2, 1) := by decide +kernel
theorem dX11_hold_32 : decode cX11_hold 32 = .ok (.invokestatic 71, 3) := by decide +kernel
theorem dX11_hold_35 : decode cX11_hold 35 = .ok (.ifCond .ne 5, 3) := by decide +kernel
theorem dX11_hold_38 : decode cX11_hold 38 = .ok (.iconst (-1), 1) := by decide +kernel
theorem dX11_hold_39 : decode cX11_hold 39 = .ok (.ireturn, 1) := by decide +kernel
theorem dX11_hold_40 : decode cX11_hold 40 = .ok (.aload_n 0, 1) := by decide +kernel
theorem dX11_hold_41 : decode cX11_hold 41 = .ok (.getfield 48, 3) := by decide +kernel
theorem dX11_hold_44 : decode cX11_hold 44 = .ok (.bipush 40, 2) := by decide +kernel
theorem dX11_hold_46 : decode cX11_hold 46 = .ok (.if_icmp .lt 6, 3) := by decide +kernel
theorem dX11_hold_49 : decode cX11_hold 49 = .ok (.bipush (-2), 2) := by decide +kernel
theorem dX11_hold_51 : decode cX11_hold 51 = .ok (.ireturn, 1) := by decide +kernel
theorem dX11_hold_52 : decode cX11_hold 52 = .ok (.aload_n 0, 1) := by decide +kernel
theorem dX11_hold_53 : decode cX11_hold 53 = .ok (.iload_n 2, 1) := by decide +kernel
theorem dX11_hold_54 : decode cX11_hold 54 = .ok (.iload_n 1, 1) := by decide +kernel
theorem dX11_hold_55 : decode cX11_hold 55 = .ok (.invokevirtual 108, 3) := by decide +kernel
theorem dX11_hold_58 : decode cX11_hold 58 = .ok (.ifCond .eq 6, 3) := by decide +kernel
theorem dX11_hold_61 : decode cX11_hold 61 = .ok (.bipush (-3), 2) := by decide +kernel
theorem dX11_hold_63 : decode cX11_hold 63 = .ok (.ireturn, 1) := by decide +kernel
theorem dX11_hold_64 : decode cX11_hold 64 = .ok (.aload 4, 2) := by decide +kernel
theorem dX11_hold_66 : decode cX11_hold 66 = .ok (.iload_n 2, 1) := by decide +kernel
theorem dX11_hold_67 : decode cX11_hold 67 = .ok (.iload_n 3, 1) := by decide +kernel
theorem dX11_hold_68 : decode cX11_hold 68 = .ok (.invokevirtual 112, 3) := by decide +kernel
theorem dX11_hold_71 : decode cX11_hold 71 = .ok (.aload_n 0, 1) := by decide +kernel
theorem dX11_hold_72 : decode cX11_hold 72 = .ok (.dup, 1) := by decide +kernel
theorem dX11_hold_73 : decode cX11_hold 73 = .ok (.getfield 48, 3) := by decide +kernel
theorem dX11_hold_76 : decode cX11_hold 76 = .ok (.iconst 1, 1) := by decide +kernel
theorem dX11_hold_77 : decode cX11_hold 77 = .ok (.iadd, 1) := by decide +kernel
theorem dX11_hold_78 : decode cX11_hold 78 = .ok (.putfield 48, 3) := by decide +kernel
theorem dX11_hold_81 : decode cX11_hold 81 = .ok (.iconst 0, 1) := by decide +kernel
theorem dX11_hold_82 : decode cX11_hold 82 = .ok (.ireturn, 1) := by decide +kernel
theorem dX11_isHeldOver_0 : decode cX11_isHeldOver 0 = .ok (.iconst 1, 1) := by decide +kernel
theorem dX11_isHeldOver_1 : decode cX11_isHeldOver 1 = .ok (.iload_n 1, 1) := by decide +kernel
theorem dX11_isHeldOver_2 : decode cX11_isHeldOver 2 = .ok (.ishl, 1) := by decide +kernel
theorem dX11_isHeldOver_3 : decode cX11_isHeldOver 3 = .ok (.istore_n 3, 1) := by decide +kernel
theorem dX11_isHeldOver_4 : decode cX11_isHeldOver 4 = .ok (.iconst 0, 1) := by decide +kernel
theorem dX11_isHeldOver_5 : decode cX11_isHeldOver 5 = .ok (.istore 4, 2) := by decide +kernel
theorem dX11_isHeldOver_7 : decode cX11_isHeldOver 7 = .ok (.iload 4, 2) := by decide +kernel
theorem dX11_isHeldOver_9 : decode cX11_isHeldOver 9 = .ok (.aload_n 0, 1) := by decide +kernel
theorem dX11_isHeldOver_10 : decode cX11_isHeldOver 10 = .ok (.getfield 16, 3) := by decide +kernel
theorem dX11_isHeldOver_13 : decode cX11_isHeldOver 13 = .ok (.invokevirtual 75, 3) := by decide +kernel
theorem dX11_isHeldOver_16 : decode cX11_isHeldOver 16 = .ok (.if_icmp .ge 58, 3) := by decide +kernel
theorem dX11_isHeldOver_19 : decode cX11_isHeldOver 19 = .ok (.iconst 0, 1) := by decide +kernel
theorem dX11_isHeldOver_20 : decode cX11_isHeldOver 20 = .ok (.istore 5, 2) := by decide +kernel
theorem dX11_isHeldOver_22 : decode cX11_isHeldOver 22 = .ok (.iload 5, 2) := by decide +kernel
theorem dX11_isHeldOver_24 : decode cX11_isHeldOver 24 = .ok (.aload_n 0, 1) := by decide +kernel
theorem dX11_isHeldOver_25 : decode cX11_isHeldOver 25 = .ok (.getfield 16, 3) := by decide +kernel
theorem dX11_isHeldOver_28 : decode cX11_isHeldOver 28 = .ok (.invokevirtual 75, 3) := by decide +kernel
theorem dX11_isHeldOver_31 : decode cX11_isHeldOver 31 = .ok (.if_icmp .ge 37, 3) := by decide +kernel
theorem dX11_isHeldOver_34 : decode cX11_isHeldOver 34 = .ok (.iload_n 3, 1) := by decide +kernel
theorem dX11_isHeldOver_35 : decode cX11_isHeldOver 35 = .ok (.iload 5, 2) := by decide +kernel
theorem dX11_isHeldOver_37 : decode cX11_isHeldOver 37 = .ok (.ishr, 1) := by decide +kernel
theorem dX11_isHeldOver_38 : decode cX11_isHeldOver 38 = .ok (.iconst 1, 1) := by decide +kernel
theorem dX11_isHeldOver_39 : decode cX11_isHeldOver 39 = .ok (.iand, 1) := by decide +kernel
theorem dX11_isHeldOver_40 : decode cX11_isHeldOver 40 = .ok (.iconst 1, 1) := by decide +kernel
theorem dX11_isHeldOver_41 : decode cX11_isHeldOver 41 = .ok (.if_icmp .ne 21, 3) := by decide +kernel
theorem dX11_isHeldOver_44 : decode cX11_isHeldOver 44 = .ok (.iload_n 3, 1) := by decide +kernel
theorem dX11_isHeldOver_45 : decode cX11_isHeldOver 45 = .ok (.aload_n 0, 1) := by decide +kernel
theorem dX11_isHeldOver_46 : decode cX11_isHeldOver 46 = .ok (.getfield 16, 3) := by decide +kernel
theorem dX11_isHeldOver_49 : decode cX11_isHeldOver 49 = .ok (.iload 5, 2) := by decide +kernel
theorem dX11_isHeldOver_51 : decode cX11_isHeldOver 51 = .ok (.invokevirtual 115, 3) := by decide +kernel
theorem dX11_isHeldOver_54 : decode cX11_isHeldOver 54 = .ok (.checkcast 96, 3) := by decide +kernel
theorem dX11_isHeldOver_57 : decode cX11_isHeldOver 57 = .ok (.invokevirtual 119, 3) := by decide +kernel
theorem dX11_isHeldOver_60 : decode cX11_isHeldOver 60 = .ok (.ior, 1) := by decide +kernel
theorem dX11_isHeldOver_61 : decode cX11_isHeldOver 61 = .ok (.istore_n 3, 1) := by decide +kernel
theorem dX11_isHeldOver_62 : decode cX11_isHeldOver 62 = .ok (.iinc 5 1, 3) := by decide +kernel
theorem dX11_isHeldOver_65 : decode cX11_isHeldOver 65 = .ok (.goto (-43), 3) := by decide +kernel
theorem dX11_isHeldOver_68 : decode cX11_isHeldOver 68 = .ok (.iinc 4 1, 3) := by decide +kernel
theorem dX11_isHeldOver_71 : decode cX11_isHeldOver 71 = .ok (.goto (-64), 3) := by decide +kernel
theorem dX11_isHeldOver_74 : decode cX11_isHeldOver 74 = .ok (.iload_n 3, 1) := by decide +kernel
theorem dX11_isHeldOver_75 : decode cX11_isHeldOver 75 = .ok (.iload_n 2, 1) := by decide +kernel
theorem dX11_isHeldOver_76 : decode cX11_isHeldOver 76 = .ok (.ishr, 1) := by decide +kernel
theorem dX11_isHeldOver_77 : decode cX11_isHeldOver 77 = .ok (.iconst 1, 1) := by decide +kernel
theorem dX11_isHeldOver_78 : decode cX11_isHeldOver 78 = .ok (.iand, 1) := by decide +kernel
theorem dX11_isHeldOver_79 : decode cX11_isHeldOver 79 = .ok (.iconst 1, 1) := by decide +kernel
theorem dX11_isHeldOver_80 : decode cX11_isHeldOver 80 = .ok (.if_icmp .ne 7, 3) := by decide +kernel
theorem dX11_isHeldOver_83 : decode cX11_isHeldOver 83 = .ok (.iconst 1, 1) := by decide +kernel
theorem dX11_isHeldOver_84 : decode cX11_isHeldOver 84 = .ok (.goto 4, 3) := by decide +kernel
theorem dX11_isHeldOver_87 : decode cX11_isHeldOver 87 = .ok (.iconst 0, 1) := by decide +kernel
theorem dX11_isHeldOver_88 : decode cX11_isHeldOver 88 = .ok (.ireturn, 1) := by decide +kernel
theorem dX11_silence_0 : decode cX11_silence 0 = .ok (.iload_n 1, 1) := by decide +kernel
theorem dX11_silence_1 : decode cX11_silence 1 = .ok (.iconst (-1), 1) := by decide +kernel
theorem dX11_silence_2 : decode cX11_silence 2 = .ok (.bipush 9, 2) := by decide +kernel
theorem dX11_silence_4 : decode cX11_silence 4 = .ok (.invokestatic 71, 3) := by decide +kernel
theorem dX11_silence_7 : decode cX11_silence 7 = .ok (.ifCond .eq 20, 3) := by decide +kernel
theorem dX11_silence_10 : decode cX11_silence 10 = .ok (.iload_n 2, 1) := by decide +kernel
theorem dX11_silence_11 : decode cX11_silence 11 = .ok (.iconst (-1), 1) := by decide +kernel
theorem dX11_silence_12 : decode cX11_silence 12 = .ok (.aload_n 0, 1) := by decide +kernel
theorem dX11_silence_13 : decode cX11_silence 13 = .ok (.getfield 16, 3) := by decide +kernel
theorem dX11_silence_16 : decode cX11_silence 16 = .ok (.invokevirtual 75, 3) := by decide +kernel
theorem dX11_silence_19 : decode cX11_silence 19 = .ok (.iconst 1, 1) := by decide +kernel
theorem dX11_silence_20 : decode cX11_silence 20 = .ok (.isub, 1) := by decide +kernel
theorem dX11_silence_21 : decode cX11_silence 21 = .ok (.invokestatic 71, 3) := by decide +kernel
theorem dX11_silence_24 : decode cX11_silence 24 = .ok (.ifCond .ne 5, 3) := by decide +kernel
theorem dX11_silence_27 : decode cX11_silence 27 = .ok (.iconst (-1), 1) := by decide +kernel
theorem dX11_silence_28 : decode cX11_silence 28 = .ok (.ireturn, 1) := by decide +kernel
theorem dX11_silence_29 : decode cX11_silence 29 = .ok (.iload_n 3, 1) := by decide +kernel
theorem dX11_silence_30 : decode cX11_silence 30 = .ok (.iload 4, 2) := by decide +kernel
theorem dX11_silence_32 : decode cX11_silence 32 = .ok (.invokestatic 122, 3) := by decide +kernel
theorem dX11_silence_35 : decode cX11_silence 35 = .ok (.ifCond .eq 15, 3) := by decide +kernel
theorem dX11_silence_38 : decode cX11_silence 38 = .ok (.aload_n 0, 1) := by decide +kernel
theorem dX11_silence_39 : decode cX11_silence 39 = .ok (.getfield 40, 3) := by decide +kernel
theorem dX11_silence_42 : decode cX11_silence 42 = .ok (.iload 5, 2) := by decide +kernel
theorem dX11_silence_44 : decode cX11_silence 44 = .ok (.invokevirtual 125, 3) := by decide +kernel
theorem dX11_silence_47 : decode cX11_silence 47 = .ok (.ifCond .ne 5, 3) := by decide +kernel
theorem dX11_silence_50 : decode cX11_silence 50 = .ok (.iconst (-1), 1) := by decide +kernel
theorem dX11_silence_51 : decode cX11_silence 51 = .ok (.ireturn, 1) := by decide +kernel
theorem dX11_silence_52 : decode cX11_silence 52 = .ok (.aload_n 0, 1) := by decide +kernel
theorem dX11_silence_53 : decode cX11_silence 53 = .ok (.getfield 19, 3) := by decide +kernel
theorem dX11_silence_56 : decode cX11_silence 56 = .ok (.invokevirtual 75, 3) := by decide +kernel
theorem dX11_silence_59 : decode cX11_silence 59 = .ok (.bipush 20, 2) := by decide +kernel
theorem dX11_silence_61 : decode cX11_silence 61 = .ok (.if_icmp .lt 6, 3) := by decide +kernel
theorem dX11_silence_64 : decode cX11_silence 64 = .ok (.bipush (-2), 2) := by decide +kernel
theorem dX11_silence_66 : decode cX11_silence 66 = .ok (.ireturn, 1) := by decide +kernel
theorem dX11_silence_67 : decode cX11_silence 67 = .ok (.aload_n 0, 1) := by decide +kernel
theorem dX11_silence_68 : decode cX11_silence 68 = .ok (.getfield 19, 3) := by decide +kernel
theorem dX11_silence_71 : decode cX11_silence 71 = .ok (.new 128, 3) := by decide +kernel
theorem dX11_silence_74 : decode cX11_silence 74 = .ok (.dup, 1) := by decide +kernel
theorem dX11_silence_75 : decode cX11_silence 75 = .ok (.iload_n 1, 1) := by decide +kernel
theorem dX11_silence_76 : decode cX11_silence 76 = .ok (.iload_n 2, 1) := by decide +kernel
theorem dX11_silence_77 : decode cX11_silence 77 = .ok (.iload_n 3, 1) := by decide +kernel
theorem dX11_silence_78 : decode cX11_silence 78 = .ok (.iload 4, 2) := by decide +kernel
theorem dX11_silence_80 : decode cX11_silence 80 = .ok (.invokespecial 130, 3) := by decide +kernel
theorem dX11_silence_83 : decode cX11_silence 83 = .ok (.invokevirtual 84, 3) := by decide +kernel
theorem dX11_silence_86 : decode cX11_silence 86 = .ok (.pop, 1) := by decide +kernel
theorem dX11_silence_87 : decode cX11_silence 87 = .ok (.aload_n 0, 1) := by decide +kernel
theorem dX11_silence_88 : decode cX11_silence 88 = .ok (.getfield 19, 3) := by decide +kernel
theorem dX11_silence_91 : decode cX11_silence 91 = .ok (.invokevirtual 75, 3) := by decide +kernel
theorem dX11_silence_94 : decode cX11_silence 94 = .ok (.iconst 1, 1) := by decide +kernel
theorem dX11_silence_95 : decode cX11_silence 95 = .ok (.isub, 1) := by decide +kernel
theorem dX11_silence_96 : decode cX11_silence 96 = .ok (.ireturn, 1) := by decide +kernel
theorem dX11_mask_0 : decode cX11_mask 0 = .ok (.iload_n 1, 1) := by decide +kernel
theorem dX11_mask_1 : decode cX11_mask 1 = .ok (.iconst 0, 1) := by decide +kernel
theorem dX11_mask_2 : decode cX11_mask 2 = .ok (.bipush 7, 2) := by decide +kernel
theorem dX11_mask_4 : decode cX11_mask 4 = .ok (.invokestatic 71, 3) := by decide +kernel
theorem dX11_mask_7 : decode cX11_mask 7 = .ok (.ifCond .ne 5, 3) := by decide +kernel
theorem dX11_mask_10 : decode cX11_mask 10 = .ok (.iconst (-1), 1) := by decide +kernel
theorem dX11_mask_11 : decode cX11_mask 11 = .ok (.ireturn, 1) := by decide +kernel
theorem dX11_mask_12 : decode cX11_mask 12 = .ok (.aload_n 0, 1) := by decide +kernel
theorem dX11_mask_13 : decode cX11_mask 13 = .ok (.getfield 22, 3) := by decide +kernel
theorem dX11_mask_16 : decode cX11_mask 16 = .ok (.invokevirtual 75, 3) := by decide +kernel
theorem dX11_mask_19 : decode cX11_mask 19 = .ok (.ifCond .le 6, 3) := by decide +kernel
theorem dX11_mask_22 : decode cX11_mask 22 = .ok (.bipush (-3), 2) := by decide +kernel
theorem dX11_mask_24 : decode cX11_mask 24 = .ok (.ireturn, 1) := by decide +kernel
theorem dX11_mask_25 : decode cX11_mask 25 = .ok (.aload_n 0, 1) := by decide +kernel
theorem dX11_mask_26 : decode cX11_mask 26 = .ok (.iload_n 1, 1) := by decide +kernel
theorem dX11_mask_27 : decode cX11_mask 27 = .ok (.putfield 52, 3) := by decide +kernel
theorem dX11_mask_30 : decode cX11_mask 30 = .ok (.iconst 0, 1) := by decide +kernel
theorem dX11_mask_31 : decode cX11_mask 31 = .ok (.ireturn, 1) := by decide +kernel
theorem dX11_waits_0 : decode cX11_waits 0 = .ok (.iload_n 1, 1) := by decide +kernel
theorem dX11_waits_1 : decode cX11_waits 1 = .ok (.iconst 0, 1) := by decide +kernel
theorem dX11_waits_2 : decode cX11_waits 2 = .ok (.bipush 50, 2) := by decide +kernel
theorem dX11_waits_4 : decode cX11_waits 4 = .ok (.invokestatic 71, 3) := by decide +kernel
theorem dX11_waits_7 : decode cX11_waits 7 = .ok (.ifCond .eq 13, 3) := by decide +kernel
theorem dX11_waits_10 : decode cX11_waits 10 = .ok (.iload_n 2, 1) := by decide +kernel
theorem dX11_waits_11 : decode cX11_waits 11 = .ok (.iconst 1, 1) := by decide +kernel
theorem dX11_waits_12 : decode cX11_waits 12 = .ok (.bipush 50, 2) := by decide +kernel
theorem dX11_waits_14 : decode cX11_waits 14 = .ok (.invokestatic 71, 3) := by decide +kernel
theorem dX11_waits_17 : decode cX11_waits 17 = .ok (.ifCond .ne 5, 3) := by decide +kernel
theorem dX11_waits_20 : decode cX11_waits 20 = .ok (.iconst (-1), 1) := by decide +kernel
theorem dX11_waits_21 : decode cX11_waits 21 = .ok (.ireturn, 1) := by decide +kernel
theorem dX11_waits_22 : decode cX11_waits 22 = .ok (.iload_n 3, 1) := by decide +kernel
theorem dX11_waits_23 : decode cX11_waits 23 = .ok (.iconst 1, 1) := by decide +kernel
theorem dX11_waits_24 : decode cX11_waits 24 = .ok (.bipush 100, 2) := by decide +kernel
theorem dX11_waits_26 : decode cX11_waits 26 = .ok (.invokestatic 71, 3) := by decide +kernel
theorem dX11_waits_29 : decode cX11_waits 29 = .ok (.ifCond .eq 14, 3) := by decide +kernel
theorem dX11_waits_32 : decode cX11_waits 32 = .ok (.iload 4, 2) := by decide +kernel
theorem dX11_waits_34 : decode cX11_waits 34 = .ok (.iconst 1, 1) := by decide +kernel
theorem dX11_waits_35 : decode cX11_waits 35 = .ok (.bipush 50, 2) := by decide +kernel
theorem dX11_waits_37 : decode cX11_waits 37 = .ok (.invokestatic 71, 3) := by decide +kernel
theorem dX11_waits_40 : decode cX11_waits 40 = .ok (.ifCond .ne 5, 3) := by decide +kernel
theorem dX11_waits_43 : decode cX11_waits 43 = .ok (.iconst (-1), 1) := by decide +kernel
theorem dX11_waits_44 : decode cX11_waits 44 = .ok (.ireturn, 1) := by decide +kernel
theorem dX11_waits_45 : decode cX11_waits 45 = .ok (.aload_n 0, 1) := by decide +kernel
theorem dX11_waits_46 : decode cX11_waits 46 = .ok (.iload_n 1, 1) := by decide +kernel
theorem dX11_waits_47 : decode cX11_waits 47 = .ok (.putfield 55, 3) := by decide +kernel
theorem dX11_waits_50 : decode cX11_waits 50 = .ok (.aload_n 0, 1) := by decide +kernel
theorem dX11_waits_51 : decode cX11_waits 51 = .ok (.iload_n 2, 1) := by decide +kernel
theorem dX11_waits_52 : decode cX11_waits 52 = .ok (.putfield 58, 3) := by decide +kernel
theorem dX11_waits_55 : decode cX11_waits 55 = .ok (.aload_n 0, 1) := by decide +kernel
theorem dX11_waits_56 : decode cX11_waits 56 = .ok (.iload_n 3, 1) := by decide +kernel
theorem dX11_waits_57 : decode cX11_waits 57 = .ok (.putfield 61, 3) := by decide +kernel
theorem dX11_waits_60 : decode cX11_waits 60 = .ok (.aload_n 0, 1) := by decide +kernel
theorem dX11_waits_61 : decode cX11_waits 61 = .ok (.iload 4, 2) := by decide +kernel
theorem dX11_waits_63 : decode cX11_waits 63 = .ok (.putfield 64, 3) := by decide +kernel
theorem dX11_waits_66 : decode cX11_waits 66 = .ok (.iconst 0, 1) := by decide +kernel
theorem dX11_waits_67 : decode cX11_waits 67 = .ok (.ireturn, 1) := by decide +kernel
theorem dX11_hand_0 : decode cX11_hand 0 = .ok (.aload_n 0, 1) := by decide +kernel
theorem dX11_hand_1 : decode cX11_hand 1 = .ok (.getfield 40, 3) := by decide +kernel
theorem dX11_hand_4 : decode cX11_hand 4 = .ok (.invokevirtual 133, 3) := by decide +kernel
theorem dX11_hand_7 : decode cX11_hand 7 = .ok (.ireturn, 1) := by decide +kernel
theorem dX11_shift_0 : decode cX11_shift 0 = .ok (.aload_n 0, 1) := by decide +kernel
theorem dX11_shift_1 : decode cX11_shift 1 = .ok (.getfield 40, 3) := by decide +kernel
theorem dX11_shift_4 : decode cX11_shift 4 = .ok (.iload_n 1, 1) := by decide +kernel
theorem dX11_shift_5 : decode cX11_shift 5 = .ok (.invokevirtual 125, 3) := by decide +kernel
theorem dX11_shift_8 : decode cX11_shift 8 = .ok (.ifCond .eq 13, 3) := by decide +kernel
theorem dX11_shift_11 : decode cX11_shift 11 = .ok (.iload_n 2, 1) := by decide +kernel
theorem dX11_shift_12 : decode cX11_shift 12 = .ok (.iconst 0, 1) := by decide +kernel
theorem dX11_shift_13 : decode cX11_shift 13 = .ok (.bipush 47, 2) := by decide +kernel
theorem dX11_shift_15 : decode cX11_shift 15 = .ok (.invokestatic 71, 3) := by decide +kernel
theorem dX11_shift_18 : decode cX11_shift 18 = .ok (.ifCond .ne 5, 3) := by decide +kernel
theorem dX11_shift_21 : decode cX11_shift 21 = .ok (.iconst (-1), 1) := by decide +kernel
theorem dX11_shift_22 : decode cX11_shift 22 = .ok (.ireturn, 1) := by decide +kernel
theorem dX11_shift_23 : decode cX11_shift 23 = .ok (.iload_n 3, 1) := by decide +kernel
theorem dX11_shift_24 : decode cX11_shift 24 = .ok (.iconst 1, 1) := by decide +kernel
theorem dX11_shift_25 : decode cX11_shift 25 = .ok (.bipush 48, 2) := by decide +kernel
theorem dX11_shift_27 : decode cX11_shift 27 = .ok (.invokestatic 71, 3) := by decide +kernel
theorem dX11_shift_30 : decode cX11_shift 30 = .ok (.ifCond .eq 14, 3) := by decide +kernel
theorem dX11_shift_33 : decode cX11_shift 33 = .ok (.iload 4, 2) := by decide +kernel
theorem dX11_shift_35 : decode cX11_shift 35 = .ok (.iconst 0, 1) := by decide +kernel
theorem dX11_shift_36 : decode cX11_shift 36 = .ok (.bipush 9, 2) := by decide +kernel
theorem dX11_shift_38 : decode cX11_shift 38 = .ok (.invokestatic 71, 3) := by decide +kernel
theorem dX11_shift_41 : decode cX11_shift 41 = .ok (.ifCond .ne 5, 3) := by decide +kernel
theorem dX11_shift_44 : decode cX11_shift 44 = .ok (.iconst (-1), 1) := by decide +kernel
theorem dX11_shift_45 : decode cX11_shift 45 = .ok (.ireturn, 1) := by decide +kernel
theorem dX11_shift_46 : decode cX11_shift 46 = .ok (.aload_n 0, 1) := by decide +kernel
theorem dX11_shift_47 : decode cX11_shift 47 = .ok (.getfield 40, 3) := by decide +kernel
theorem dX11_shift_50 : decode cX11_shift 50 = .ok (.new 136, 3) := by decide +kernel
theorem dX11_shift_53 : decode cX11_shift 53 = .ok (.dup, 1) := by decide +kernel
theorem dX11_shift_54 : decode cX11_shift 54 = .ok (.iload_n 1, 1) := by decide +kernel
theorem dX11_shift_55 : decode cX11_shift 55 = .ok (.iload_n 2, 1) := by decide +kernel
theorem dX11_shift_56 : decode cX11_shift 56 = .ok (.iload_n 3, 1) := by decide +kernel
theorem dX11_shift_57 : decode cX11_shift 57 = .ok (.iload 4, 2) := by decide +kernel
theorem dX11_shift_59 : decode cX11_shift 59 = .ok (.invokespecial 138, 3) := by decide +kernel
theorem dX11_shift_62 : decode cX11_shift 62 = .ok (.invokevirtual 139, 3) := by decide +kernel
theorem dX11_shift_65 : decode cX11_shift 65 = .ok (.ireturn, 1) := by decide +kernel
theorem dX11_swap_0 : decode cX11_swap 0 = .ok (.aload_n 0, 1) := by decide +kernel
theorem dX11_swap_1 : decode cX11_swap 1 = .ok (.getfield 40, 3) := by decide +kernel
theorem dX11_swap_4 : decode cX11_swap 4 = .ok (.iload_n 1, 1) := by decide +kernel
theorem dX11_swap_5 : decode cX11_swap 5 = .ok (.invokevirtual 125, 3) := by decide +kernel
theorem dX11_swap_8 : decode cX11_swap 8 = .ok (.ifCond .eq 28, 3) := by decide +kernel
theorem dX11_swap_11 : decode cX11_swap 11 = .ok (.aload_n 0, 1) := by decide +kernel
theorem dX11_swap_12 : decode cX11_swap 12 = .ok (.getfield 40, 3) := by decide +kernel
theorem dX11_swap_15 : decode cX11_swap 15 = .ok (.iload_n 2, 1) := by decide +kernel
theorem dX11_swap_16 : decode cX11_swap 16 = .ok (.invokevirtual 125, 3) := by decide +kernel
theorem dX11_swap_19 : decode cX11_swap 19 = .ok (.ifCond .eq 17, 3) := by decide +kernel
theorem dX11_swap_22 : decode cX11_swap 22 = .ok (.iload_n 1, 1) := by decide +kernel
theorem dX11_swap_23 : decode cX11_swap 23 = .ok (.iload_n 2, 1) := by decide +kernel
theorem dX11_swap_24 : decode cX11_swap 24 = .ok (.if_icmp .eq 12, 3) := by decide +kernel
theorem dX11_swap_27 : decode cX11_swap 27 = .ok (.iload_n 3, 1) := by decide +kernel
theorem dX11_swap_28 : decode cX11_swap 28 = .ok (.iload 4, 2) := by decide +kernel
theorem dX11_swap_30 : decode cX11_swap 30 = .ok (.invokestatic 122, 3) := by decide +kernel
theorem dX11_swap_33 : decode cX11_swap 33 = .ok (.ifCond .ne 5, 3) := by decide +kernel
theorem dX11_swap_36 : decode cX11_swap 36 = .ok (.iconst (-1), 1) := by decide +kernel
theorem dX11_swap_37 : decode cX11_swap 37 = .ok (.ireturn, 1) := by decide +kernel
theorem dX11_swap_38 : decode cX11_swap 38 = .ok (.aload_n 0, 1) := by decide +kernel
theorem dX11_swap_39 : decode cX11_swap 39 = .ok (.getfield 40, 3) := by decide +kernel
theorem dX11_swap_42 : decode cX11_swap 42 = .ok (.new 143, 3) := by decide +kernel
theorem dX11_swap_45 : decode cX11_swap 45 = .ok (.dup, 1) := by decide +kernel
theorem dX11_swap_46 : decode cX11_swap 46 = .ok (.iload_n 1, 1) := by decide +kernel
theorem dX11_swap_47 : decode cX11_swap 47 = .ok (.iload_n 2, 1) := by decide +kernel
theorem dX11_swap_48 : decode cX11_swap 48 = .ok (.iload_n 3, 1) := by decide +kernel
theorem dX11_swap_49 : decode cX11_swap 49 = .ok (.iload 4, 2) := by decide +kernel
theorem dX11_swap_51 : decode cX11_swap 51 = .ok (.invokespecial 145, 3) := by decide +kernel
theorem dX11_swap_54 : decode cX11_swap 54 = .ok (.invokevirtual 146, 3) := by decide +kernel
theorem dX11_swap_57 : decode cX11_swap 57 = .ok (.ireturn, 1) := by decide +kernel
theorem dX11_value_0 : decode cX11_value 0 = .ok (.aload_n 0, 1) := by decide +kernel
theorem dX11_value_1 : decode cX11_value 1 = .ok (.iload_n 1, 1) := by decide +kernel
theorem dX11_value_2 : decode cX11_value 2 = .ok (.invokevirtual 150, 3) := by decide +kernel
theorem dX11_value_5 : decode cX11_value 5 = .ok (.astore 4, 2) := by decide +kernel
theorem dX11_value_7 : decode cX11_value 7 = .ok (.aload 4, 2) := by decide +kernel
theorem dX11_value_9 : decode cX11_value 9 = .ok (.ifnonnull 5, 3) := by decide +kernel
theorem dX11_value_12 : decode cX11_value 12 = .ok (.iconst (-1), 1) := by decide +kernel
theorem dX11_value_13 : decode cX11_value 13 = .ok (.ireturn, 1) := by decide +kernel
theorem dX11_value_14 : decode cX11_value 14 = .ok (.dload_n 2, 1) := by decide +kernel
theorem dX11_value_15 : decode cX11_value 15 = .ok (.ldc2_w 154, 3) := by decide +kernel
theorem dX11_value_18 : decode cX11_value 18 = .ok (.dcmp .l, 1) := by decide +kernel
theorem dX11_value_19 : decode cX11_value 19 = .ok (.ifCond .lt 15, 3) := by decide +kernel
theorem dX11_value_22 : decode cX11_value 22 = .ok (.dload_n 2, 1) := by decide +kernel
theorem dX11_value_23 : decode cX11_value 23 = .ok (.ldc2_w 156, 3) := by decide +kernel
theorem dX11_value_26 : decode cX11_value 26 = .ok (.dcmp .g, 1) := by decide +kernel
theorem dX11_value_27 : decode cX11_value 27 = .ok (.ifCond .gt 7, 3) := by decide +kernel
theorem dX11_value_30 : decode cX11_value 30 = .ok (.iconst 1, 1) := by decide +kernel
theorem dX11_value_31 : decode cX11_value 31 = .ok (.goto 4, 3) := by decide +kernel
theorem dX11_value_34 : decode cX11_value 34 = .ok (.iconst 0, 1) := by decide +kernel
theorem dX11_value_35 : decode cX11_value 35 = .ok (.istore 5, 2) := by decide +kernel
theorem dX11_value_37 : decode cX11_value 37 = .ok (.iload 5, 2) := by decide +kernel
theorem dX11_value_39 : decode cX11_value 39 = .ok (.ifCond .eq 13, 3) := by decide +kernel
theorem dX11_value_42 : decode cX11_value 42 = .ok (.aload_n 0, 1) := by decide +kernel
theorem dX11_value_43 : decode cX11_value 43 = .ok (.getfield 67, 3) := by decide +kernel
theorem dX11_value_46 : decode cX11_value 46 = .ok (.sipush 400, 3) := by decide +kernel
theorem dX11_value_49 : decode cX11_value 49 = .ok (.if_icmp .lt 6, 3) := by decide +kernel
theorem dX11_value_52 : decode cX11_value 52 = .ok (.bipush (-2), 2) := by decide +kernel
theorem dX11_value_54 : decode cX11_value 54 = .ok (.ireturn, 1) := by decide +kernel
theorem dX11_value_55 : decode cX11_value 55 = .ok (.aload 4, 2) := by decide +kernel
theorem dX11_value_57 : decode cX11_value 57 = .ok (.aload_n 0, 1) := by decide +kernel
theorem dX11_value_58 : decode cX11_value 58 = .ok (.getfield 67, 3) := by decide +kernel
theorem dX11_value_61 : decode cX11_value 61 = .ok (.iconst 1, 1) := by decide +kernel
theorem dX11_value_62 : decode cX11_value 62 = .ok (.iadd, 1) := by decide +kernel
theorem dX11_value_63 : decode cX11_value 63 = .ok (.invokevirtual 158, 3) := by decide +kernel
theorem dX11_value_66 : decode cX11_value 66 = .ok (.istore 6, 2) := by decide +kernel
theorem dX11_value_68 : decode cX11_value 68 = .ok (.aload 4, 2) := by decide +kernel
theorem dX11_value_70 : decode cX11_value 70 = .ok (.aload_n 0, 1) := by decide +kernel
theorem dX11_value_71 : decode cX11_value 71 = .ok (.getfield 67, 3) := by decide +kernel
theorem dX11_value_74 : decode cX11_value 74 = .ok (.iconst 1, 1) := by decide +kernel
theorem dX11_value_75 : decode cX11_value 75 = .ok (.iadd, 1) := by decide +kernel
theorem dX11_value_76 : decode cX11_value 76 = .ok (.dload_n 2, 1) := by decide +kernel
theorem dX11_value_77 : decode cX11_value 77 = .ok (.d2l, 1) := by decide +kernel
theorem dX11_value_78 : decode cX11_value 78 = .ok (.invokevirtual 161, 3) := by decide +kernel
theorem dX11_value_81 : decode cX11_value 81 = .ok (.iload 6, 2) := by decide +kernel
theorem dX11_value_83 : decode cX11_value 83 = .ok (.ifCond .ne 7, 3) := by decide +kernel
theorem dX11_value_86 : decode cX11_value 86 = .ok (.iconst 1, 1) := by decide +kernel
theorem dX11_value_87 : decode cX11_value 87 = .ok (.goto 4, 3) := by decide +kernel
theorem dX11_value_90 : decode cX11_value 90 = .ok (.iconst 0, 1) := by decide +kernel
theorem dX11_value_91 : decode cX11_value 91 = .ok (.invokestatic 165, 3) := by decide +kernel
theorem dX11_value_94 : decode cX11_value 94 = .ok (.ireturn, 1) := by decide +kernel
theorem dX11_tear_0 : decode cX11_tear 0 = .ok (.aload_n 0, 1) := by decide +kernel
theorem dX11_tear_1 : decode cX11_tear 1 = .ok (.iload_n 1, 1) := by decide +kernel
theorem dX11_tear_2 : decode cX11_tear 2 = .ok (.invokevirtual 150, 3) := by decide +kernel
theorem dX11_tear_5 : decode cX11_tear 5 = .ok (.astore_n 2, 1) := by decide +kernel
theorem dX11_tear_6 : decode cX11_tear 6 = .ok (.aload_n 2, 1) := by decide +kernel
theorem dX11_tear_7 : decode cX11_tear 7 = .ok (.ifnonnull 5, 3) := by decide +kernel
theorem dX11_tear_10 : decode cX11_tear 10 = .ok (.iconst (-1), 1) := by decide +kernel
theorem dX11_tear_11 : decode cX11_tear 11 = .ok (.ireturn, 1) := by decide +kernel
theorem dX11_tear_12 : decode cX11_tear 12 = .ok (.aload_n 2, 1) := by decide +kernel
theorem dX11_tear_13 : decode cX11_tear 13 = .ok (.aload_n 0, 1) := by decide +kernel
theorem dX11_tear_14 : decode cX11_tear 14 = .ok (.getfield 67, 3) := by decide +kernel
theorem dX11_tear_17 : decode cX11_tear 17 = .ok (.iconst 1, 1) := by decide +kernel
theorem dX11_tear_18 : decode cX11_tear 18 = .ok (.iadd, 1) := by decide +kernel
theorem dX11_tear_19 : decode cX11_tear 19 = .ok (.invokevirtual 158, 3) := by decide +kernel
theorem dX11_tear_22 : decode cX11_tear 22 = .ok (.istore_n 3, 1) := by decide +kernel
theorem dX11_tear_23 : decode cX11_tear 23 = .ok (.aload_n 2, 1) := by decide +kernel
theorem dX11_tear_24 : decode cX11_tear 24 = .ok (.aload_n 0, 1) := by decide +kernel
theorem dX11_tear_25 : decode cX11_tear 25 = .ok (.getfield 67, 3) := by decide +kernel
theorem dX11_tear_28 : decode cX11_tear 28 = .ok (.iconst 1, 1) := by decide +kernel
theorem dX11_tear_29 : decode cX11_tear 29 = .ok (.iadd, 1) := by decide +kernel
theorem dX11_tear_30 : decode cX11_tear 30 = .ok (.invokevirtual 169, 3) := by decide +kernel
theorem dX11_tear_33 : decode cX11_tear 33 = .ok (.iload_n 3, 1) := by decide +kernel
theorem dX11_tear_34 : decode cX11_tear 34 = .ok (.invokestatic 165, 3) := by decide +kernel
theorem dX11_tear_37 : decode cX11_tear 37 = .ok (.ireturn, 1) := by decide +kernel
theorem dX11_tick_0 : decode cX11_tick 0 = .ok (.aload_n 0, 1) := by decide +kernel
theorem dX11_tick_1 : decode cX11_tick 1 = .ok (.getfield 67, 3) := by decide +kernel
theorem dX11_tick_4 : decode cX11_tick 4 = .ok (.sipush 400, 3) := by decide +kernel
theorem dX11_tick_7 : decode cX11_tick 7 = .ok (.if_icmp .lt 6, 3) := by decide +kernel
theorem dX11_tick_10 : decode cX11_tick 10 = .ok (.bipush (-2), 2) := by decide +kernel
theorem dX11_tick_12 : decode cX11_tick 12 = .ok (.ireturn, 1) := by decide +kernel
theorem dX11_tick_13 : decode cX11_tick 13 = .ok (.aload_n 0, 1) := by decide +kernel
theorem dX11_tick_14 : decode cX11_tick 14 = .ok (.getfield 67, 3) := by decide +kernel
theorem dX11_tick_17 : decode cX11_tick 17 = .ok (.iconst 1, 1) := by decide +kernel
theorem dX11_tick_18 : decode cX11_tick 18 = .ok (.iadd, 1) := by decide +kernel
theorem dX11_tick_19 : decode cX11_tick 19 = .ok (.istore_n 1, 1) := by decide +kernel
theorem dX11_tick_20 : decode cX11_tick 20 = .ok (.aload_n 0, 1) := by decide +kernel
theorem dX11_tick_21 : decode cX11_tick 21 = .ok (.iload_n 1, 1) := by decide +kernel
theorem dX11_tick_22 : decode cX11_tick 22 = .ok (.invokevirtual 173, 3) := by decide +kernel
theorem dX11_tick_25 : decode cX11_tick 25 = .ok (.aload_n 0, 1) := by decide +kernel
theorem dX11_tick_26 : decode cX11_tick 26 = .ok (.iload_n 1, 1) := by decide +kernel
theorem dX11_tick_27 : decode cX11_tick 27 = .ok (.invokevirtual 176, 3) := by decide +kernel
theorem dX11_tick_30 : decode cX11_tick 30 = .ok (.aload_n 0, 1) := by decide +kernel
theorem dX11_tick_31 : decode cX11_tick 31 = .ok (.iload_n 1, 1) := by decide +kernel
theorem dX11_tick_32 : decode cX11_tick 32 = .ok (.invokevirtual 179, 3) := by decide +kernel
theorem dX11_tick_35 : decode cX11_tick 35 = .ok (.aload_n 0, 1) := by decide +kernel
theorem dX11_tick_36 : decode cX11_tick 36 = .ok (.iload_n 1, 1) := by decide +kernel
theorem dX11_tick_37 : decode cX11_tick 37 = .ok (.invokevirtual 182, 3) := by decide +kernel
theorem dX11_tick_40 : decode cX11_tick 40 = .ok (.istore_n 2, 1) := by decide +kernel
theorem dX11_tick_41 : decode cX11_tick 41 = .ok (.aload_n 0, 1) := by decide +kernel
theorem dX11_tick_42 : decode cX11_tick 42 = .ok (.iload_n 1, 1) := by decide +kernel
theorem dX11_tick_43 : decode cX11_tick 43 = .ok (.putfield 67, 3) := by decide +kernel
theorem dX11_tick_46 : decode cX11_tick 46 = .ok (.iload_n 2, 1) := by decide +kernel
theorem dX11_tick_47 : decode cX11_tick 47 = .ok (.ireturn, 1) := by decide +kernel
theorem dX11_lookByRules_0 : decode cX11_lookByRules 0 = .ok (.iconst 0, 1) := by decide +kernel
theorem dX11_lookByRules_1 : decode cX11_lookByRules 1 = .ok (.istore_n 2, 1) := by decide +kernel
theorem dX11_lookByRules_2 : decode cX11_lookByRules 2 = .ok (.iload_n 2, 1) := by decide +kernel
theorem dX11_lookByRules_3 : decode cX11_lookByRules 3 = .ok (.aload_n 0, 1) := by decide +kernel
theorem dX11_lookByRules_4 : decode cX11_lookByRules 4 = .ok (.getfield 16, 3) := by decide +kernel
theorem dX11_lookByRules_7 : decode cX11_lookByRules 7 = .ok (.invokevirtual 75, 3) := by decide +kernel
theorem dX11_lookByRules_10 : decode cX11_lookByRules 10 = .ok (.if_icmp .ge 60, 3) := by decide +kernel
theorem dX11_lookByRules_13 : decode cX11_lookByRules 13 = .ok (.aload_n 0, 1) := by decide +kernel
theorem dX11_lookByRules_14 : decode cX11_lookByRules 14 = .ok (.getfield 16, 3) := by decide +kernel
theorem dX11_lookByRules_17 : decode cX11_lookByRules 17 = .ok (.iload_n 2, 1) := by decide +kernel
theorem dX11_lookByRules_18 : decode cX11_lookByRules 18 = .ok (.invokevirtual 115, 3) := by decide +kernel
theorem dX11_lookByRules_21 : decode cX11_lookByRules 21 = .ok (.checkcast 96, 3) := by decide +kernel
theorem dX11_lookByRules_24 : decode cX11_lookByRules 24 = .ok (.astore_n 3, 1) := by decide +kernel
theorem dX11_lookByRules_25 : decode cX11_lookByRules 25 = .ok (.iconst 0, 1) := by decide +kernel
theorem dX11_lookByRules_26 : decode cX11_lookByRules 26 = .ok (.istore 4, 2) := by decide +kernel
theorem dX11_lookByRules_28 : decode cX11_lookByRules 28 = .ok (.iload 4, 2) := by decide +kernel
theorem dX11_lookByRules_30 : decode cX11_lookByRules 30 = .ok (.aload_n 0, 1) := by decide +kernel
theorem dX11_lookByRules_31 : decode cX11_lookByRules 31 = .ok (.getfield 10, 3) := by decide +kernel
theorem dX11_lookByRules_34 : decode cX11_lookByRules 34 = .ok (.invokevirtual 75, 3) := by decide +kernel
theorem dX11_lookByRules_37 : decode cX11_lookByRules 37 = .ok (.if_icmp .ge 27, 3) := by decide +kernel
theorem dX11_lookByRules_40 : decode cX11_lookByRules 40 = .ok (.aload_n 0, 1) := by decide +kernel
theorem dX11_lookByRules_41 : decode cX11_lookByRules 41 = .ok (.aload_n 3, 1) := by decide +kernel
theorem dX11_lookByRules_42 : decode cX11_lookByRules 42 = .ok (.aload_n 0, 1) := by decide +kernel
theorem dX11_lookByRules_43 : decode cX11_lookByRules 43 = .ok (.getfield 10, 3) := by decide +kernel
theorem dX11_lookByRules_46 : decode cX11_lookByRules 46 = .ok (.iload 4, 2) := by decide +kernel
theorem dX11_lookByRules_48 : decode cX11_lookByRules 48 = .ok (.invokevirtual 115, 3) := by decide +kernel
theorem dX11_lookByRules_51 : decode cX11_lookByRules 51 = .ok (.checkcast 79, 3) := by decide +kernel
theorem dX11_lookByRules_54 : decode cX11_lookByRules 54 = .ok (.iload_n 1, 1) := by decide +kernel
theorem dX11_lookByRules_55 : decode cX11_lookByRules 55 = .ok (.invokevirtual 186, 3) := by decide +kernel
theorem dX11_lookByRules_58 : decode cX11_lookByRules 58 = .ok (.iinc 4 1, 3) := by decide +kernel
theorem dX11_lookByRules_61 : decode cX11_lookByRules 61 = .ok (.goto (-33), 3) := by decide +kernel
theorem dX11_lookByRules_64 : decode cX11_lookByRules 64 = .ok (.iinc 2 1, 3) := by decide +kernel
theorem dX11_lookByRules_67 : decode cX11_lookByRules 67 = .ok (.goto (-65), 3) := by decide +kernel
theorem dX11_lookByRules_70 : decode cX11_lookByRules 70 = .ok (.return_, 1) := by decide +kernel
theorem dX11_lookAt_0 : decode cX11_lookAt 0 = .ok (.aload_n 1, 1) := by decide +kernel
theorem dX11_lookAt_1 : decode cX11_lookAt 1 = .ok (.aload_n 2, 1) := by decide +kernel
theorem dX11_lookAt_2 : decode cX11_lookAt 2 = .ok (.getfield 190, 3) := by decide +kernel
theorem dX11_lookAt_5 : decode cX11_lookAt 5 = .ok (.invokevirtual 191, 3) := by decide +kernel
theorem dX11_lookAt_8 : decode cX11_lookAt 8 = .ok (.astore 4, 2) := by decide +kernel
theorem dX11_lookAt_10 : decode cX11_lookAt 10 = .ok (.aload 4, 2) := by decide +kernel
theorem dX11_lookAt_12 : decode cX11_lookAt 12 = .ok (.ifnull 11, 3) := by decide +kernel
theorem dX11_lookAt_15 : decode cX11_lookAt 15 = .ok (.aload_n 1, 1) := by decide +kernel
theorem dX11_lookAt_16 : decode cX11_lookAt 16 = .ok (.aload_n 2, 1) := by decide +kernel
theorem dX11_lookAt_17 : decode cX11_lookAt 17 = .ok (.invokevirtual 195, 3) := by decide +kernel
theorem dX11_lookAt_20 : decode cX11_lookAt 20 = .ok (.ifCond .ne 4, 3) := by decide +kernel
theorem dX11_lookAt_23 : decode cX11_lookAt 23 = .ok (.return_, 1) := by decide +kernel
theorem dX11_lookAt_24 : decode cX11_lookAt 24 = .ok (.aload_n 1, 1) := by decide +kernel
theorem dX11_lookAt_25 : decode cX11_lookAt 25 = .ok (.getfield 199, 3) := by decide +kernel
theorem dX11_lookAt_28 : decode cX11_lookAt 28 = .ok (.bipush 6, 2) := by decide +kernel
theorem dX11_lookAt_30 : decode cX11_lookAt 30 = .ok (.if_icmp .ne 12, 3) := by decide +kernel
theorem dX11_lookAt_33 : decode cX11_lookAt 33 = .ok (.aload_n 0, 1) := by decide +kernel
theorem dX11_lookAt_34 : decode cX11_lookAt 34 = .ok (.aload_n 1, 1) := by decide +kernel
theorem dX11_lookAt_35 : decode cX11_lookAt 35 = .ok (.aload_n 2, 1) := by decide +kernel
theorem dX11_lookAt_36 : decode cX11_lookAt 36 = .ok (.invokevirtual 202, 3) := by decide +kernel
theorem dX11_lookAt_39 : decode cX11_lookAt 39 = .ok (.goto 11, 3) := by decide +kernel
theorem dX11_lookAt_42 : decode cX11_lookAt 42 = .ok (.aload_n 1, 1) := by decide +kernel
theorem dX11_lookAt_43 : decode cX11_lookAt 43 = .ok (.aload_n 2, 1) := by decide +kernel
theorem dX11_lookAt_44 : decode cX11_lookAt 44 = .ok (.aload 4, 2) := by decide +kernel
theorem dX11_lookAt_46 : decode cX11_lookAt 46 = .ok (.iload_n 3, 1) := by decide +kernel
theorem dX11_lookAt_47 : decode cX11_lookAt 47 = .ok (.invokevirtual 206, 3) := by decide +kernel
theorem dX11_lookAt_50 : decode cX11_lookAt 50 = .ok (.istore 5, 2) := by decide +kernel
theorem dX11_lookAt_52 : decode cX11_lookAt 52 = .ok (.aload 4, 2) := by decide +kernel
theorem dX11_lookAt_54 : decode cX11_lookAt 54 = .ok (.iload 5, 2) := by decide +kernel
theorem dX11_lookAt_56 : decode cX11_lookAt 56 = .ok (.invokevirtual 210, 3) := by decide +kernel
theorem dX11_lookAt_59 : decode cX11_lookAt 59 = .ok (.aload_n 1, 1) := by decide +kernel
theorem dX11_lookAt_60 : decode cX11_lookAt 60 = .ok (.aload 4, 2) := by decide +kernel
theorem dX11_lookAt_62 : decode cX11_lookAt 62 = .ok (.invokevirtual 215, 3) := by decide +kernel
theorem dX11_lookAt_65 : decode cX11_lookAt 65 = .ok (.aload 4, 2) := by decide +kernel
theorem dX11_lookAt_67 : decode cX11_lookAt 67 = .ok (.getfield 219, 3) := by decide +kernel
theorem dX11_lookAt_70 : decode cX11_lookAt 70 = .ok (.ifnonnull 27, 3) := by decide +kernel
theorem dX11_lookAt_73 : decode cX11_lookAt 73 = .ok (.aload 4, 2) := by decide +kernel
theorem dX11_lookAt_75 : decode cX11_lookAt 75 = .ok (.getfield 223, 3) := by decide +kernel
theorem dX11_lookAt_78 : decode cX11_lookAt 78 = .ok (.aload_n 1, 1) := by decide +kernel
theorem dX11_lookAt_79 : decode cX11_lookAt 79 = .ok (.getfield 226, 3) := by decide +kernel
theorem dX11_lookAt_82 : decode cX11_lookAt 82 = .ok (.if_icmp .lt 15, 3) := by decide +kernel
theorem dX11_lookAt_85 : decode cX11_lookAt 85 = .ok (.aload_n 0, 1) := by decide +kernel
theorem dX11_lookAt_86 : decode cX11_lookAt 86 = .ok (.aload_n 1, 1) := by decide +kernel
theorem dX11_lookAt_87 : decode cX11_lookAt 87 = .ok (.aload_n 2, 1) := by decide +kernel
theorem dX11_lookAt_88 : decode cX11_lookAt 88 = .ok (.aload 4, 2) := by decide +kernel
theorem dX11_lookAt_90 : decode cX11_lookAt 90 = .ok (.iload_n 3, 1) := by decide +kernel
theorem dX11_lookAt_91 : decode cX11_lookAt 91 = .ok (.invokevirtual 229, 3) := by decide +kernel
theorem dX11_lookAt_94 : decode cX11_lookAt 94 = .ok (.goto 38, 3) := by decide +kernel
theorem dX11_lookAt_97 : decode cX11_lookAt 97 = .ok (.aload 4, 2) := by decide +kernel
theorem dX11_lookAt_99 : decode cX11_lookAt 99 = .ok (.getfield 219, 3) := by decide +kernel
theorem dX11_lookAt_102 : decode cX11_lookAt 102 = .ok (.ifnull 30, 3) := by decide +kernel
theorem dX11_lookAt_105 : decode cX11_lookAt 105 = .ok (.aload 4, 2) := by decide +kernel
theorem dX11_lookAt_107 : decode cX11_lookAt 107 = .ok (.getfield 233, 3) := by decide +kernel
theorem dX11_lookAt_110 : decode cX11_lookAt 110 = .ok (.aload_n 1, 1) := by decide +kernel
theorem dX11_lookAt_111 : decode cX11_lookAt 111 = .ok (.getfield 236, 3) := by decide +kernel
theorem dX11_lookAt_114 : decode cX11_lookAt 114 = .ok (.if_icmp .lt 18, 3) := by decide +kernel
theorem dX11_lookAt_117 : decode cX11_lookAt 117 = .ok (.aload 4, 2) := by decide +kernel
theorem dX11_lookAt_119 : decode cX11_lookAt 119 = .ok (.getfield 219, 3) := by decide +kernel
theorem dX11_lookAt_122 : decode cX11_lookAt 122 = .ok (.iload_n 3, 1) := by decide +kernel
theorem dX11_lookAt_123 : decode cX11_lookAt 123 = .ok (.invokevirtual 239, 3) := by decide +kernel
theorem dX11_lookAt_126 : decode cX11_lookAt 126 = .ok (.aload 4, 2) := by decide +kernel
theorem dX11_lookAt_128 : decode cX11_lookAt 128 = .ok (.aconst_null, 1) := by decide +kernel
theorem dX11_lookAt_129 : decode cX11_lookAt 129 = .ok (.putfield 219, 3) := by decide +kernel
theorem dX11_lookAt_132 : decode cX11_lookAt 132 = .ok (.return_, 1) := by decide +kernel
theorem dX11_truthOfBoth_0 : decode cX11_truthOfBoth 0 = .ok (.aload_n 0, 1) := by decide +kernel
theorem dX11_truthOfBoth_1 : decode cX11_truthOfBoth 1 = .ok (.aload_n 1, 1) := by decide +kernel
theorem dX11_truthOfBoth_2 : decode cX11_truthOfBoth 2 = .ok (.getfield 243, 3) := by decide +kernel
theorem dX11_truthOfBoth_5 : decode cX11_truthOfBoth 5 = .ok (.l2i, 1) := by decide +kernel
theorem dX11_truthOfBoth_6 : decode cX11_truthOfBoth 6 = .ok (.aload_n 2, 1) := by decide +kernel
theorem dX11_truthOfBoth_7 : decode cX11_truthOfBoth 7 = .ok (.getfield 190, 3) := by decide +kernel
theorem dX11_truthOfBoth_10 : decode cX11_truthOfBoth 10 = .ok (.invokevirtual 247, 3) := by decide +kernel
theorem dX11_truthOfBoth_13 : decode cX11_truthOfBoth 13 = .ok (.astore_n 3, 1) := by decide +kernel
theorem dX11_truthOfBoth_14 : decode cX11_truthOfBoth 14 = .ok (.aload_n 0, 1) := by decide +kernel
theorem dX11_truthOfBoth_15 : decode cX11_truthOfBoth 15 = .ok (.aload_n 1, 1) := by decide +kernel
theorem dX11_truthOfBoth_16 : decode cX11_truthOfBoth 16 = .ok (.getfield 251, 3) := by decide +kernel
theorem dX11_truthOfBoth_19 : decode cX11_truthOfBoth 19 = .ok (.aload_n 2, 1) := by decide +kernel
theorem dX11_truthOfBoth_20 : decode cX11_truthOfBoth 20 = .ok (.getfield 190, 3) := by decide +kernel
theorem dX11_truthOfBoth_23 : decode cX11_truthOfBoth 23 = .ok (.invokevirtual 247, 3) := by decide +kernel
theorem dX11_truthOfBoth_26 : decode cX11_truthOfBoth 26 = .ok (.astore 4, 2) := by decide +kernel
theorem dX11_truthOfBoth_28 : decode cX11_truthOfBoth 28 = .ok (.aload_n 3, 1) := by decide +kernel
theorem dX11_truthOfBoth_29 : decode cX11_truthOfBoth 29 = .ok (.ifnull 8, 3) := by decide +kernel
theorem dX11_truthOfBoth_32 : decode cX11_truthOfBoth 32 = .ok (.aload 4, 2) := by decide +kernel
theorem dX11_truthOfBoth_34 : decode cX11_truthOfBoth 34 = .ok (.ifnonnull 5, 3) := by decide +kernel
theorem dX11_truthOfBoth_37 : decode cX11_truthOfBoth 37 = .ok (.iconst (-1), 1) := by decide +kernel
theorem dX11_truthOfBoth_38 : decode cX11_truthOfBoth 38 = .ok (.ireturn, 1) := by decide +kernel
theorem dX11_truthOfBoth_39 : decode cX11_truthOfBoth 39 = .ok (.aload_n 3, 1) := by decide +kernel
theorem dX11_truthOfBoth_40 : decode cX11_truthOfBoth 40 = .ok (.getfield 254, 3) := by decide +kernel
theorem dX11_truthOfBoth_43 : decode cX11_truthOfBoth 43 = .ok (.ifCond .eq 11, 3) := by decide +kernel
theorem dX11_truthOfBoth_46 : decode cX11_truthOfBoth 46 = .ok (.aload 4, 2) := by decide +kernel
theorem dX11_truthOfBoth_48 : decode cX11_truthOfBoth 48 = .ok (.getfield 254, 3) := by decide +kernel
theorem dX11_truthOfBoth_51 : decode cX11_truthOfBoth 51 = .ok (.ifCond .ne 5, 3) := by decide +kernel
theorem dX11_truthOfBoth_54 : decode cX11_truthOfBoth 54 = .ok (.iconst 0, 1) := by decide +kernel
theorem dX11_truthOfBoth_55 : decode cX11_truthOfBoth 55 = .ok (.ireturn, 1) := by decide +kernel
theorem dX11_truthOfBoth_56 : decode cX11_truthOfBoth 56 = .ok (.aload_n 3, 1) := by decide +kernel
theorem dX11_truthOfBoth_57 : decode cX11_truthOfBoth 57 = .ok (.getfield 254, 3) := by decide +kernel
theorem dX11_truthOfBoth_60 : decode cX11_truthOfBoth 60 = .ok (.iconst 1, 1) := by decide +kernel
theorem dX11_truthOfBoth_61 : decode cX11_truthOfBoth 61 = .ok (.if_icmp .ne 16, 3) := by decide +kernel
theorem dX11_truthOfBoth_64 : decode cX11_truthOfBoth 64 = .ok (.aload 4, 2) := by decide +kernel
theorem dX11_truthOfBoth_66 : decode cX11_truthOfBoth 66 = .ok (.getfield 254, 3) := by decide +kernel
theorem dX11_truthOfBoth_69 : decode cX11_truthOfBoth 69 = .ok (.iconst 1, 1) := by decide +kernel
theorem dX11_truthOfBoth_70 : decode cX11_truthOfBoth 70 = .ok (.if_icmp .ne 7, 3) := by decide +kernel
theorem dX11_truthOfBoth_73 : decode cX11_truthOfBoth 73 = .ok (.iconst 1, 1) := by decide +kernel
theorem dX11_truthOfBoth_74 : decode cX11_truthOfBoth 74 = .ok (.goto 4, 3) := by decide +kernel
theorem dX11_truthOfBoth_77 : decode cX11_truthOfBoth 77 = .ok (.iconst (-1), 1) := by decide +kernel
theorem dX11_truthOfBoth_78 : decode cX11_truthOfBoth 78 = .ok (.ireturn, 1) := by decide +kernel
theorem dX11_beginAlarm_0 : decode cX11_beginAlarm 0 = .ok (.aload_n 0, 1) := by decide +kernel
theorem dX11_beginAlarm_1 : decode cX11_beginAlarm 1 = .ok (.getfield 22, 3) := by decide +kernel
theorem dX11_beginAlarm_4 : decode cX11_beginAlarm 4 = .ok (.invokevirtual 75, 3) := by decide +kernel
theorem dX11_beginAlarm_7 : decode cX11_beginAlarm 7 = .ok (.sipush 300, 3) := by decide +kernel
theorem dX11_beginAlarm_10 : decode cX11_beginAlarm 10 = .ok (.if_icmp .lt 4, 3) := by decide +kernel
theorem dX11_beginAlarm_13 : decode cX11_beginAlarm 13 = .ok (.return_, 1) := by decide +kernel
theorem dX11_beginAlarm_14 : decode cX11_beginAlarm 14 = .ok (.aload_n 3, 1) := by decide +kernel
theorem dX11_beginAlarm_15 : decode cX11_beginAlarm 15 = .ok (.new 240, 3) := by decide +kernel
theorem dX11_beginAlarm_18 : decode cX11_beginAlarm 18 = .ok (.dup, 1) := by decide +kernel
theorem dX11_beginAlarm_19 : decode cX11_beginAlarm 19 = .ok (.aload_n 0, 1) := by decide +kernel
theorem dX11_beginAlarm_20 : decode cX11_beginAlarm 20 = .ok (.getfield 22, 3) := by decide +kernel
theorem dX11_beginAlarm_23 : decode cX11_beginAlarm 23 = .ok (.invokevirtual 75, 3) := by decide +kernel
theorem dX11_beginAlarm_26 : decode cX11_beginAlarm 26 = .ok (.aload_n 1, 1) := by decide +kernel
theorem dX11_beginAlarm_27 : decode cX11_beginAlarm 27 = .ok (.aload_n 2, 1) := by decide +kernel
theorem dX11_beginAlarm_28 : decode cX11_beginAlarm 28 = .ok (.aload_n 0, 1) := by decide +kernel
theorem dX11_beginAlarm_29 : decode cX11_beginAlarm 29 = .ok (.aload_n 1, 1) := by decide +kernel
theorem dX11_beginAlarm_30 : decode cX11_beginAlarm 30 = .ok (.aload_n 2, 1) := by decide +kernel
theorem dX11_beginAlarm_31 : decode cX11_beginAlarm 31 = .ok (.invokevirtual 257, 3) := by decide +kernel
theorem dX11_beginAlarm_34 : decode cX11_beginAlarm 34 = .ok (.iload 4, 2) := by decide +kernel
theorem dX11_beginAlarm_36 : decode cX11_beginAlarm 36 = .ok (.invokespecial 261, 3) := by decide +kernel
theorem dX11_beginAlarm_39 : decode cX11_beginAlarm 39 = .ok (.putfield 219, 3) := by decide +kernel
theorem dX11_beginAlarm_42 : decode cX11_beginAlarm 42 = .ok (.aload_n 0, 1) := by decide +kernel
theorem dX11_beginAlarm_43 : decode cX11_beginAlarm 43 = .ok (.getfield 22, 3) := by decide +kernel
theorem dX11_beginAlarm_46 : decode cX11_beginAlarm 46 = .ok (.aload_n 3, 1) := by decide +kernel
theorem dX11_beginAlarm_47 : decode cX11_beginAlarm 47 = .ok (.getfield 219, 3) := by decide +kernel
theorem dX11_beginAlarm_50 : decode cX11_beginAlarm 50 = .ok (.invokevirtual 84, 3) := by decide +kernel
theorem dX11_beginAlarm_53 : decode cX11_beginAlarm 53 = .ok (.pop, 1) := by decide +kernel
theorem dX11_beginAlarm_54 : decode cX11_beginAlarm 54 = .ok (.return_, 1) := by decide +kernel
theorem dX11_groupOf_0 : decode cX11_groupOf 0 = .ok (.iconst 0, 1) := by decide +kernel
theorem dX11_groupOf_1 : decode cX11_groupOf 1 = .ok (.istore_n 3, 1) := by decide +kernel
theorem dX11_groupOf_2 : decode cX11_groupOf 2 = .ok (.iload_n 3, 1) := by decide +kernel
theorem dX11_groupOf_3 : decode cX11_groupOf 3 = .ok (.aload_n 0, 1) := by decide +kernel
theorem dX11_groupOf_4 : decode cX11_groupOf 4 = .ok (.getfield 25, 3) := by decide +kernel
theorem dX11_groupOf_7 : decode cX11_groupOf 7 = .ok (.invokevirtual 75, 3) := by decide +kernel
theorem dX11_groupOf_10 : decode cX11_groupOf 10 = .ok (.if_icmp .ge 44, 3) := by decide +kernel
theorem dX11_groupOf_13 : decode cX11_groupOf 13 = .ok (.aload_n 0, 1) := by decide +kernel
theorem dX11_groupOf_14 : decode cX11_groupOf 14 = .ok (.getfield 25, 3) := by decide +kernel
theorem dX11_groupOf_17 : decode cX11_groupOf 17 = .ok (.iload_n 3, 1) := by decide +kernel
theorem dX11_groupOf_18 : decode cX11_groupOf 18 = .ok (.invokevirtual 115, 3) := by decide +kernel
theorem dX11_groupOf_21 : decode cX11_groupOf 21 = .ok (.checkcast 264, 3) := by decide +kernel
theorem dX11_groupOf_24 : decode cX11_groupOf 24 = .ok (.aload_n 1, 1) := by decide +kernel
theorem dX11_groupOf_25 : decode cX11_groupOf 25 = .ok (.aload_n 2, 1) := by decide +kernel
theorem dX11_groupOf_26 : decode cX11_groupOf 26 = .ok (.aload_n 0, 1) := by decide +kernel
theorem dX11_groupOf_27 : decode cX11_groupOf 27 = .ok (.getfield 52, 3) := by decide +kernel
theorem dX11_groupOf_30 : decode cX11_groupOf 30 = .ok (.invokevirtual 266, 3) := by decide +kernel
theorem dX11_groupOf_33 : decode cX11_groupOf 33 = .ok (.ifCond .eq 15, 3) := by decide +kernel
theorem dX11_groupOf_36 : decode cX11_groupOf 36 = .ok (.aload_n 0, 1) := by decide +kernel
theorem dX11_groupOf_37 : decode cX11_groupOf 37 = .ok (.getfield 25, 3) := by decide +kernel
theorem dX11_groupOf_40 : decode cX11_groupOf 40 = .ok (.iload_n 3, 1) := by decide +kernel
theorem dX11_groupOf_41 : decode cX11_groupOf 41 = .ok (.invokevirtual 115, 3) := by decide +kernel
theorem dX11_groupOf_44 : decode cX11_groupOf 44 = .ok (.checkcast 264, 3) := by decide +kernel
theorem dX11_groupOf_47 : decode cX11_groupOf 47 = .ok (.areturn, 1) := by decide +kernel
theorem dX11_groupOf_48 : decode cX11_groupOf 48 = .ok (.iinc 3 1, 3) := by decide +kernel
theorem dX11_groupOf_51 : decode cX11_groupOf 51 = .ok (.goto (-49), 3) := by decide +kernel
theorem dX11_groupOf_54 : decode cX11_groupOf 54 = .ok (.new 264, 3) := by decide +kernel
theorem dX11_groupOf_57 : decode cX11_groupOf 57 = .ok (.dup, 1) := by decide +kernel
theorem dX11_groupOf_58 : decode cX11_groupOf 58 = .ok (.aload_n 1, 1) := by decide +kernel
theorem dX11_groupOf_59 : decode cX11_groupOf 59 = .ok (.aload_n 2, 1) := by decide +kernel
theorem dX11_groupOf_60 : decode cX11_groupOf 60 = .ok (.invokespecial 270, 3) := by decide +kernel
theorem dX11_groupOf_63 : decode cX11_groupOf 63 = .ok (.astore_n 3, 1) := by decide +kernel
theorem dX11_groupOf_64 : decode cX11_groupOf 64 = .ok (.aload_n 0, 1) := by decide +kernel
theorem dX11_groupOf_65 : decode cX11_groupOf 65 = .ok (.getfield 25, 3) := by decide +kernel
theorem dX11_groupOf_68 : decode cX11_groupOf 68 = .ok (.aload_n 3, 1) := by decide +kernel
theorem dX11_groupOf_69 : decode cX11_groupOf 69 = .ok (.invokevirtual 84, 3) := by decide +kernel
theorem dX11_groupOf_72 : decode cX11_groupOf 72 = .ok (.pop, 1) := by decide +kernel
theorem dX11_groupOf_73 : decode cX11_groupOf 73 = .ok (.aload_n 3, 1) := by decide +kernel
theorem dX11_groupOf_74 : decode cX11_groupOf 74 = .ok (.areturn, 1) := by decide +kernel
theorem dX11_markAlarms_0 : decode cX11_markAlarms 0 = .ok (.iconst 0, 1) := by decide +kernel
theorem dX11_markAlarms_1 : decode cX11_markAlarms 1 = .ok (.istore_n 2, 1) := by decide +kernel
theorem dX11_markAlarms_2 : decode cX11_markAlarms 2 = .ok (.iload_n 2, 1) := by decide +kernel
theorem dX11_markAlarms_3 : decode cX11_markAlarms 3 = .ok (.aload_n 0, 1) := by decide +kernel
theorem dX11_markAlarms_4 : decode cX11_markAlarms 4 = .ok (.getfield 22, 3) := by decide +kernel
theorem dX11_markAlarms_7 : decode cX11_markAlarms 7 = .ok (.invokevirtual 75, 3) := by decide +kernel
theorem dX11_markAlarms_10 : decode cX11_markAlarms 10 = .ok (.if_icmp .ge 44, 3) := by decide +kernel
theorem dX11_markAlarms_13 : decode cX11_markAlarms 13 = .ok (.aload_n 0, 1) := by decide +kernel
theorem dX11_markAlarms_14 : decode cX11_markAlarms 14 = .ok (.getfield 22, 3) := by decide +kernel
theorem dX11_markAlarms_17 : decode cX11_markAlarms 17 = .ok (.iload_n 2, 1) := by decide +kernel
theorem dX11_markAlarms_18 : decode cX11_markAlarms 18 = .ok (.invokevirtual 115, 3) := by decide +kernel
theorem dX11_markAlarms_21 : decode cX11_markAlarms 21 = .ok (.checkcast 240, 3) := by decide +kernel
theorem dX11_markAlarms_24 : decode cX11_markAlarms 24 = .ok (.astore_n 3, 1) := by decide +kernel
theorem dX11_markAlarms_25 : decode cX11_markAlarms 25 = .ok (.aload_n 3, 1) := by decide +kernel
theorem dX11_markAlarms_26 : decode cX11_markAlarms 26 = .ok (.invokevirtual 273, 3) := by decide +kernel
theorem dX11_markAlarms_29 : decode cX11_markAlarms 29 = .ok (.ifCond .eq 19, 3) := by decide +kernel
theorem dX11_markAlarms_32 : decode cX11_markAlarms 32 = .ok (.aload_n 3, 1) := by decide +kernel
theorem dX11_markAlarms_33 : decode cX11_markAlarms 33 = .ok (.aload_n 0, 1) := by decide +kernel
theorem dX11_markAlarms_34 : decode cX11_markAlarms 34 = .ok (.aload_n 3, 1) := by decide +kernel
theorem dX11_markAlarms_35 : decode cX11_markAlarms 35 = .ok (.invokevirtual 277, 3) := by decide +kernel
theorem dX11_markAlarms_38 : decode cX11_markAlarms 38 = .ok (.aload_n 0, 1) := by decide +kernel
theorem dX11_markAlarms_39 : decode cX11_markAlarms 39 = .ok (.aload_n 3, 1) := by decide +kernel
theorem dX11_markAlarms_40 : decode cX11_markAlarms 40 = .ok (.iload_n 1, 1) := by decide +kernel
theorem dX11_markAlarms_41 : decode cX11_markAlarms 41 = .ok (.invokevirtual 281, 3) := by decide +kernel
theorem dX11_markAlarms_44 : decode cX11_markAlarms 44 = .ok (.iload_n 1, 1) := by decide +kernel
theorem dX11_markAlarms_45 : decode cX11_markAlarms 45 = .ok (.invokevirtual 285, 3) := by decide +kernel
theorem dX11_markAlarms_48 : decode cX11_markAlarms 48 = .ok (.iinc 2 1, 3) := by decide +kernel
theorem dX11_markAlarms_51 : decode cX11_markAlarms 51 = .ok (.goto (-49), 3) := by decide +kernel
theorem dX11_markAlarms_54 : decode cX11_markAlarms 54 = .ok (.return_, 1) := by decide +kernel
theorem dX11_isHeld_0 : decode cX11_isHeld 0 = .ok (.iconst 0, 1) := by decide +kernel
theorem dX11_isHeld_1 : decode cX11_isHeld 1 = .ok (.istore_n 2, 1) := by decide +kernel
theorem dX11_isHeld_2 : decode cX11_isHeld 2 = .ok (.iload_n 2, 1) := by decide +kernel
theorem dX11_isHeld_3 : decode cX11_isHeld 3 = .ok (.aload_n 0, 1) := by decide +kernel
theorem dX11_isHeld_4 : decode cX11_isHeld 4 = .ok (.getfield 16, 3) := by decide +kernel
theorem dX11_isHeld_7 : decode cX11_isHeld 7 = .ok (.invokevirtual 75, 3) := by decide +kernel
theorem dX11_isHeld_10 : decode cX11_isHeld 10 = .ok (.if_icmp .ge 59, 3) := by decide +kernel
theorem dX11_isHeld_13 : decode cX11_isHeld 13 = .ok (.iconst 0, 1) := by decide +kernel
theorem dX11_isHeld_14 : decode cX11_isHeld 14 = .ok (.istore_n 3, 1) := by decide +kernel
theorem dX11_isHeld_15 : decode cX11_isHeld 15 = .ok (.iload_n 3, 1) := by decide +kernel
theorem dX11_isHeld_16 : decode cX11_isHeld 16 = .ok (.iconst 3, 1) := by decide +kernel
theorem dX11_isHeld_17 : decode cX11_isHeld 17 = .ok (.if_icmp .ge 46, 3) := by decide +kernel
theorem dX11_isHeld_20 : decode cX11_isHeld 20 = .ok (.aload_n 1, 1) := by decide +kernel
theorem dX11_isHeld_21 : decode cX11_isHeld 21 = .ok (.getfield 289, 3) := by decide +kernel
theorem dX11_isHeld_24 : decode cX11_isHeld 24 = .ok (.iload_n 2, 1) := by decide +kernel
theorem dX11_isHeld_25 : decode cX11_isHeld 25 = .ok (.iload_n 3, 1) := by decide +kernel
theorem dX11_isHeld_26 : decode cX11_isHeld 26 = .ok (.invokevirtual 293, 3) := by decide +kernel
theorem dX11_isHeld_29 : decode cX11_isHeld 29 = .ok (.ifCond .eq 28, 3) := by decide +kernel
theorem dX11_isHeld_32 : decode cX11_isHeld 32 = .ok (.aload_n 0, 1) := by decide +kernel
theorem dX11_isHeld_33 : decode cX11_isHeld 33 = .ok (.aload_n 0, 1) := by decide +kernel
theorem dX11_isHeld_34 : decode cX11_isHeld 34 = .ok (.getfield 16, 3) := by decide +kernel
theorem dX11_isHeld_37 : decode cX11_isHeld 37 = .ok (.iload_n 2, 1) := by decide +kernel
theorem dX11_isHeld_38 : decode cX11_isHeld 38 = .ok (.invokevirtual 115, 3) := by decide +kernel
theorem dX11_isHeld_41 : decode cX11_isHeld 41 = .ok (.checkcast 96, 3) := by decide +kernel
theorem dX11_isHeld_44 : decode cX11_isHeld 44 = .ok (.aload_n 1, 1) := by decide +kernel
theorem dX11_isHeld_45 : decode cX11_isHeld 45 = .ok (.getfield 296, 3) := by decide +kernel
theorem dX11_isHeld_48 : decode cX11_isHeld 48 = .ok (.iload_n 3, 1) := by decide +kernel
theorem dX11_isHeld_49 : decode cX11_isHeld 49 = .ok (.invokevirtual 300, 3) := by decide +kernel
theorem dX11_isHeld_52 : decode cX11_isHeld 52 = .ok (.ifCond .eq 5, 3) := by decide +kernel
theorem dX11_isHeld_55 : decode cX11_isHeld 55 = .ok (.iconst 1, 1) := by decide +kernel
theorem dX11_isHeld_56 : decode cX11_isHeld 56 = .ok (.ireturn, 1) := by decide +kernel
theorem dX11_isHeld_57 : decode cX11_isHeld 57 = .ok (.iinc 3 1, 3) := by decide +kernel
theorem dX11_isHeld_60 : decode cX11_isHeld 60 = .ok (.goto (-45), 3) := by decide +kernel
theorem dX11_isHeld_63 : decode cX11_isHeld 63 = .ok (.iinc 2 1, 3) := by decide +kernel
theorem dX11_isHeld_66 : decode cX11_isHeld 66 = .ok (.goto (-64), 3) := by decide +kernel
theorem dX11_isHeld_69 : decode cX11_isHeld 69 = .ok (.iconst 0, 1) := by decide +kernel
theorem dX11_isHeld_70 : decode cX11_isHeld 70 = .ok (.ireturn, 1) := by decide +kernel
theorem dX11_lastsLike_0 : decode cX11_lastsLike 0 = .ok (.iconst 0, 1) := by decide +kernel
theorem dX11_lastsLike_1 : decode cX11_lastsLike 1 = .ok (.istore 4, 2) := by decide +kernel
theorem dX11_lastsLike_3 : decode cX11_lastsLike 3 = .ok (.iload 4, 2) := by decide +kernel
theorem dX11_lastsLike_5 : decode cX11_lastsLike 5 = .ok (.aload_n 0, 1) := by decide +kernel
theorem dX11_lastsLike_6 : decode cX11_lastsLike 6 = .ok (.getfield 10, 3) := by decide +kernel
theorem dX11_lastsLike_9 : decode cX11_lastsLike 9 = .ok (.invokevirtual 75, 3) := by decide +kernel
theorem dX11_lastsLike_12 : decode cX11_lastsLike 12 = .ok (.if_icmp .ge 52, 3) := by decide +kernel
theorem dX11_lastsLike_15 : decode cX11_lastsLike 15 = .ok (.aload_n 1, 1) := by decide +kernel
theorem dX11_lastsLike_16 : decode cX11_lastsLike 16 = .ok (.iload 4, 2) := by decide +kernel
theorem dX11_lastsLike_18 : decode cX11_lastsLike 18 = .ok (.invokevirtual 191, 3) := by decide +kernel
theorem dX11_lastsLike_21 : decode cX11_lastsLike 21 = .ok (.astore 5, 2) := by decide +kernel
theorem dX11_lastsLike_23 : decode cX11_lastsLike 23 = .ok (.aload 5, 2) := by decide +kernel
theorem dX11_lastsLike_25 : decode cX11_lastsLike 25 = .ok (.ifnull 33, 3) := by decide +kernel
theorem dX11_lastsLike_28 : decode cX11_lastsLike 28 = .ok (.aload 5, 2) := by decide +kernel
theorem dX11_lastsLike_30 : decode cX11_lastsLike 30 = .ok (.getfield 219, 3) := by decide +kernel
theorem dX11_lastsLike_33 : decode cX11_lastsLike 33 = .ok (.ifnull 25, 3) := by decide +kernel
theorem dX11_lastsLike_36 : decode cX11_lastsLike 36 = .ok (.aload_n 0, 1) := by decide +kernel
theorem dX11_lastsLike_37 : decode cX11_lastsLike 37 = .ok (.getfield 10, 3) := by decide +kernel
theorem dX11_lastsLike_40 : decode cX11_lastsLike 40 = .ok (.iload 4, 2) := by decide +kernel
theorem dX11_lastsLike_42 : decode cX11_lastsLike 42 = .ok (.invokevirtual 115, 3) := by decide +kernel
theorem dX11_lastsLike_45 : decode cX11_lastsLike 45 = .ok (.checkcast 79, 3) := by decide +kernel
theorem dX11_lastsLike_48 : decode cX11_lastsLike 48 = .ok (.aload_n 2, 1) := by decide +kernel
theorem dX11_lastsLike_49 : decode cX11_lastsLike 49 = .ok (.iload_n 3, 1) := by decide +kernel
theorem dX11_lastsLike_50 : decode cX11_lastsLike 50 = .ok (.invokestatic 303, 3) := by decide +kernel
theorem dX11_lastsLike_53 : decode cX11_lastsLike 53 = .ok (.ifCond .eq 5, 3) := by decide +kernel
theorem dX11_lastsLike_56 : decode cX11_lastsLike 56 = .ok (.iconst 1, 1) := by decide +kernel
theorem dX11_lastsLike_57 : decode cX11_lastsLike 57 = .ok (.ireturn, 1) := by decide +kernel
theorem dX11_lastsLike_58 : decode cX11_lastsLike 58 = .ok (.iinc 4 1, 3) := by decide +kernel
theorem dX11_lastsLike_61 : decode cX11_lastsLike 61 = .ok (.goto (-58), 3) := by decide +kernel
theorem dX11_lastsLike_64 : decode cX11_lastsLike 64 = .ok (.iconst 0, 1) := by decide +kernel
theorem dX11_lastsLike_65 : decode cX11_lastsLike 65 = .ok (.ireturn, 1) := by decide +kernel
theorem dX11_isLike_0 : decode cX11_isLike 0 = .ok (.iload_n 2, 1) := by decide +kernel
theorem dX11_isLike_1 : decode cX11_isLike 1 = .ok (.ifCond .ne 5, 3) := by decide +kernel
theorem dX11_isLike_4 : decode cX11_isLike 4 = .ok (.iconst 1, 1) := by decide +kernel
theorem dX11_isLike_5 : decode cX11_isLike 5 = .ok (.ireturn, 1) := by decide +kernel
theorem dX11_isLike_6 : decode cX11_isLike 6 = .ok (.iload_n 2, 1) := by decide +kernel
theorem dX11_isLike_7 : decode cX11_isLike 7 = .ok (.iconst 1, 1) := by decide +kernel
theorem dX11_isLike_8 : decode cX11_isLike 8 = .ok (.if_icmp .ne 22, 3) := by decide +kernel
theorem dX11_isLike_11 : decode cX11_isLike 11 = .ok (.aload_n 0, 1) := by decide +kernel
theorem dX11_isLike_12 : decode cX11_isLike 12 = .ok (.getfield 307, 3) := by decide +kernel
theorem dX11_isLike_15 : decode cX11_isLike 15 = .ok (.aload_n 1, 1) := by decide +kernel
theorem dX11_isLike_16 : decode cX11_isLike 16 = .ok (.getfield 307, 3) := by decide +kernel
theorem dX11_isLike_19 : decode cX11_isLike 19 = .ok (.if_icmp .ne 7, 3) := by decide +kernel
theorem dX11_isLike_22 : decode cX11_isLike 22 = .ok (.iconst 1, 1) := by decide +kernel
theorem dX11_isLike_23 : decode cX11_isLike 23 = .ok (.goto 23, 3) := by decide +kernel
theorem dX11_isLike_26 : decode cX11_isLike 26 = .ok (.iconst 0, 1) := by decide +kernel
theorem dX11_isLike_27 : decode cX11_isLike 27 = .ok (.goto 19, 3) := by decide +kernel
theorem dX11_isLike_30 : decode cX11_isLike 30 = .ok (.aload_n 0, 1) := by decide +kernel
theorem dX11_isLike_31 : decode cX11_isLike 31 = .ok (.getfield 190, 3) := by decide +kernel
theorem dX11_isLike_34 : decode cX11_isLike 34 = .ok (.aload_n 1, 1) := by decide +kernel
theorem dX11_isLike_35 : decode cX11_isLike 35 = .ok (.getfield 190, 3) := by decide +kernel
theorem dX11_isLike_38 : decode cX11_isLike 38 = .ok (.if_icmp .ne 7, 3) := by decide +kernel
theorem dX11_isLike_41 : decode cX11_isLike 41 = .ok (.iconst 1, 1) := by decide +kernel
theorem dX11_isLike_42 : decode cX11_isLike 42 = .ok (.goto 4, 3) := by decide +kernel
theorem dX11_isLike_45 : decode cX11_isLike 45 = .ok (.iconst 0, 1) := by decide +kernel
theorem dX11_isLike_46 : decode cX11_isLike 46 = .ok (.ireturn, 1) := by decide +kernel
theorem dX11_isSilenced_0 : decode cX11_isSilenced 0 = .ok (.iconst 0, 1) := by decide +kernel
theorem dX11_isSilenced_1 : decode cX11_isSilenced 1 = .ok (.istore_n 3, 1) := by decide +kernel
theorem dX11_isSilenced_2 : decode cX11_isSilenced 2 = .ok (.iload_n 3, 1) := by decide +kernel
theorem dX11_isSilenced_3 : decode cX11_isSilenced 3 = .ok (.aload_n 0, 1) := by decide +kernel
theorem dX11_isSilenced_4 : decode cX11_isSilenced 4 = .ok (.getfield 19, 3) := by decide +kernel
theorem dX11_isSilenced_7 : decode cX11_isSilenced 7 = .ok (.invokevirtual 75, 3) := by decide +kernel
theorem dX11_isSilenced_10 : decode cX11_isSilenced 10 = .ok (.if_icmp .ge 30, 3) := by decide +kernel
theorem dX11_isSilenced_13 : decode cX11_isSilenced 13 = .ok (.aload_n 0, 1) := by decide +kernel
theorem dX11_isSilenced_14 : decode cX11_isSilenced 14 = .ok (.getfield 19, 3) := by decide +kernel
theorem dX11_isSilenced_17 : decode cX11_isSilenced 17 = .ok (.iload_n 3, 1) := by decide +kernel
theorem dX11_isSilenced_18 : decode cX11_isSilenced 18 = .ok (.invokevirtual 115, 3) := by decide +kernel
theorem dX11_isSilenced_21 : decode cX11_isSilenced 21 = .ok (.checkcast 128, 3) := by decide +kernel
theorem dX11_isSilenced_24 : decode cX11_isSilenced 24 = .ok (.aload_n 1, 1) := by decide +kernel
theorem dX11_isSilenced_25 : decode cX11_isSilenced 25 = .ok (.iload_n 2, 1) := by decide +kernel
theorem dX11_isSilenced_26 : decode cX11_isSilenced 26 = .ok (.invokevirtual 310, 3) := by decide +kernel
theorem dX11_isSilenced_29 : decode cX11_isSilenced 29 = .ok (.ifCond .eq 5, 3) := by decide +kernel
theorem dX11_isSilenced_32 : decode cX11_isSilenced 32 = .ok (.iconst 1, 1) := by decide +kernel
theorem dX11_isSilenced_33 : decode cX11_isSilenced 33 = .ok (.ireturn, 1) := by decide +kernel
theorem dX11_isSilenced_34 : decode cX11_isSilenced 34 = .ok (.iinc 3 1, 3) := by decide +kernel
theorem dX11_isSilenced_37 : decode cX11_isSilenced 37 = .ok (.goto (-35), 3) := by decide +kernel
theorem dX11_isSilenced_40 : decode cX11_isSilenced 40 = .ok (.iconst 0, 1) := by decide +kernel
theorem dX11_isSilenced_41 : decode cX11_isSilenced 41 = .ok (.ireturn, 1) := by decide +kernel
theorem dX11_climbRows_0 : decode cX11_climbRows 0 = .ok (.iconst 0, 1) := by decide +kernel
theorem dX11_climbRows_1 : decode cX11_climbRows 1 = .ok (.istore_n 2, 1) := by decide +kernel
theorem dX11_climbRows_2 : decode cX11_climbRows 2 = .ok (.iload_n 2, 1) := by decide +kernel
theorem dX11_climbRows_3 : decode cX11_climbRows 3 = .ok (.aload_n 0, 1) := by decide +kernel
theorem dX11_climbRows_4 : decode cX11_climbRows 4 = .ok (.getfield 28, 3) := by decide +kernel
theorem dX11_climbRows_7 : decode cX11_climbRows 7 = .ok (.invokevirtual 75, 3) := by decide +kernel
theorem dX11_climbRows_10 : decode cX11_climbRows 10 = .ok (.if_icmp .ge 28, 3) := by decide +kernel
theorem dX11_climbRows_13 : decode cX11_climbRows 13 = .ok (.aload_n 0, 1) := by decide +kernel
theorem dX11_climbRows_14 : decode cX11_climbRows 14 = .ok (.getfield 28, 3) := by decide +kernel
theorem dX11_climbRows_17 : decode cX11_climbRows 17 = .ok (.iload_n 2, 1) := by decide +kernel
theorem dX11_climbRows_18 : decode cX11_climbRows 18 = .ok (.invokevirtual 115, 3) := by decide +kernel
theorem dX11_climbRows_21 : decode cX11_climbRows 21 = .ok (.checkcast 313, 3) := by decide +kernel
theorem dX11_climbRows_24 : decode cX11_climbRows 24 = .ok (.iload_n 1, 1) := by decide +kernel
theorem dX11_climbRows_25 : decode cX11_climbRows 25 = .ok (.aload_n 0, 1) := by decide +kernel
theorem dX11_climbRows_26 : decode cX11_climbRows 26 = .ok (.getfield 64, 3) := by decide +kernel
theorem dX11_climbRows_29 : decode cX11_climbRows 29 = .ok (.invokevirtual 315, 3) := by decide +kernel
theorem dX11_climbRows_32 : decode cX11_climbRows 32 = .ok (.iinc 2 1, 3) := by decide +kernel
theorem dX11_climbRows_35 : decode cX11_climbRows 35 = .ok (.goto (-33), 3) := by decide +kernel
theorem dX11_climbRows_38 : decode cX11_climbRows 38 = .ok (.return_, 1) := by decide +kernel
theorem dX11_sendLetters_0 : decode cX11_sendLetters 0 = .ok (.aload_n 0, 1) := by decide +kernel
theorem dX11_sendLetters_1 : decode cX11_sendLetters 1 = .ok (.invokevirtual 318, 3) := by decide +kernel
theorem dX11_sendLetters_4 : decode cX11_sendLetters 4 = .ok (.aload_n 0, 1) := by decide +kernel
theorem dX11_sendLetters_5 : decode cX11_sendLetters 5 = .ok (.getfield 28, 3) := by decide +kernel
theorem dX11_sendLetters_8 : decode cX11_sendLetters 8 = .ok (.invokevirtual 75, 3) := by decide +kernel
theorem dX11_sendLetters_11 : decode cX11_sendLetters 11 = .ok (.istore_n 2, 1) := by decide +kernel
theorem dX11_sendLetters_12 : decode cX11_sendLetters 12 = .ok (.iconst 0, 1) := by decide +kernel
theorem dX11_sendLetters_13 : decode cX11_sendLetters 13 = .ok (.istore_n 3, 1) := by decide +kernel
theorem dX11_sendLetters_14 : decode cX11_sendLetters 14 = .ok (.iload_n 3, 1) := by decide +kernel
theorem dX11_sendLetters_15 : decode cX11_sendLetters 15 = .ok (.aload_n 0, 1) := by decide +kernel
theorem dX11_sendLetters_16 : decode cX11_sendLetters 16 = .ok (.getfield 25, 3) := by decide +kernel
theorem dX11_sendLetters_19 : decode cX11_sendLetters 19 = .ok (.invokevirtual 75, 3) := by decide +kernel
theorem dX11_sendLetters_22 : decode cX11_sendLetters 22 = .ok (.if_icmp .ge 63, 3) := by decide +kernel
theorem dX11_sendLetters_25 : decode cX11_sendLetters 25 = .ok (.aload_n 0, 1) := by decide +kernel
theorem dX11_sendLetters_26 : decode cX11_sendLetters 26 = .ok (.aload_n 0, 1) := by decide +kernel
theorem dX11_sendLetters_27 : decode cX11_sendLetters 27 = .ok (.getfield 25, 3) := by decide +kernel
theorem dX11_sendLetters_30 : decode cX11_sendLetters 30 = .ok (.iload_n 3, 1) := by decide +kernel
theorem dX11_sendLetters_31 : decode cX11_sendLetters 31 = .ok (.invokevirtual 115, 3) := by decide +kernel
theorem dX11_sendLetters_34 : decode cX11_sendLetters 34 = .ok (.checkcast 264, 3) := by decide +kernel
theorem dX11_sendLetters_37 : decode cX11_sendLetters 37 = .ok (.iload_n 1, 1) := by decide +kernel
theorem dX11_sendLetters_38 : decode cX11_sendLetters 38 = .ok (.invokevirtual 321, 3) := by decide +kernel
theorem dX11_sendLetters_41 : decode cX11_sendLetters 41 = .ok (.istore 4, 2) := by decide +kernel
theorem dX11_sendLetters_43 : decode cX11_sendLetters 43 = .ok (.iload 4, 2) := by decide +kernel
theorem dX11_sendLetters_45 : decode cX11_sendLetters 45 = .ok (.ifCond .eq 34, 3) := by decide +kernel
theorem dX11_sendLetters_48 : decode cX11_sendLetters 48 = .ok (.aload_n 0, 1) := by decide +kernel
theorem dX11_sendLetters_49 : decode cX11_sendLetters 49 = .ok (.getfield 28, 3) := by decide +kernel
theorem dX11_sendLetters_52 : decode cX11_sendLetters 52 = .ok (.invokevirtual 75, 3) := by decide +kernel
theorem dX11_sendLetters_55 : decode cX11_sendLetters 55 = .ok (.sipush 200, 3) := by decide +kernel
theorem dX11_sendLetters_58 : decode cX11_sendLetters 58 = .ok (.if_icmp .ge 21, 3) := by decide +kernel
theorem dX11_sendLetters_61 : decode cX11_sendLetters 61 = .ok (.aload_n 0, 1) := by decide +kernel
theorem dX11_sendLetters_62 : decode cX11_sendLetters 62 = .ok (.aload_n 0, 1) := by decide +kernel
theorem dX11_sendLetters_63 : decode cX11_sendLetters 63 = .ok (.getfield 25, 3) := by decide +kernel
theorem dX11_sendLetters_66 : decode cX11_sendLetters 66 = .ok (.iload_n 3, 1) := by decide +kernel
theorem dX11_sendLetters_67 : decode cX11_sendLetters 67 = .ok (.invokevirtual 115, 3) := by decide +kernel
theorem dX11_sendLetters_70 : decode cX11_sendLetters 70 = .ok (.checkcast 264, 3) := by decide +kernel
theorem dX11_sendLetters_73 : decode cX11_sendLetters 73 = .ok (.iload 4, 2) := by decide +kernel
theorem dX11_sendLetters_75 : decode cX11_sendLetters 75 = .ok (.iload_n 1, 1) := by decide +kernel
theorem dX11_sendLetters_76 : decode cX11_sendLetters 76 = .ok (.invokevirtual 325, 3) := by decide +kernel
theorem dX11_sendLetters_79 : decode cX11_sendLetters 79 = .ok (.iinc 3 1, 3) := by decide +kernel
theorem dX11_sendLetters_82 : decode cX11_sendLetters 82 = .ok (.goto (-68), 3) := by decide +kernel
theorem dX11_sendLetters_85 : decode cX11_sendLetters 85 = .ok (.aload_n 0, 1) := by decide +kernel
theorem dX11_sendLetters_86 : decode cX11_sendLetters 86 = .ok (.getfield 28, 3) := by decide +kernel
theorem dX11_sendLetters_89 : decode cX11_sendLetters 89 = .ok (.invokevirtual 75, 3) := by decide +kernel
theorem dX11_sendLetters_92 : decode cX11_sendLetters 92 = .ok (.iload_n 2, 1) := by decide +kernel
theorem dX11_sendLetters_93 : decode cX11_sendLetters 93 = .ok (.isub, 1) := by decide +kernel
theorem dX11_sendLetters_94 : decode cX11_sendLetters 94 = .ok (.ireturn, 1) := by decide +kernel
theorem dX11_lookByGroups_0 : decode cX11_lookByGroups 0 = .ok (.iconst 0, 1) := by decide +kernel
theorem dX11_lookByGroups_1 : decode cX11_lookByGroups 1 = .ok (.istore_n 1, 1) := by decide +kernel
theorem dX11_lookByGroups_2 : decode cX11_lookByGroups 2 = .ok (.iload_n 1, 1) := by decide +kernel
theorem dX11_lookByGroups_3 : decode cX11_lookByGroups 3 = .ok (.aload_n 0, 1) := by decide +kernel
theorem dX11_lookByGroups_4 : decode cX11_lookByGroups 4 = .ok (.getfield 25, 3) := by decide +kernel
theorem dX11_lookByGroups_7 : decode cX11_lookByGroups 7 = .ok (.invokevirtual 75, 3) := by decide +kernel
theorem dX11_lookByGroups_10 : decode cX11_lookByGroups 10 = .ok (.if_icmp .ge 23, 3) := by decide +kernel
theorem dX11_lookByGroups_13 : decode cX11_lookByGroups 13 = .ok (.aload_n 0, 1) := by decide +kernel
theorem dX11_lookByGroups_14 : decode cX11_lookByGroups 14 = .ok (.getfield 25, 3) := by decide +kernel
theorem dX11_lookByGroups_17 : decode cX11_lookByGroups 17 = .ok (.iload_n 1, 1) := by decide +kernel
theorem dX11_lookByGroups_18 : decode cX11_lookByGroups 18 = .ok (.invokevirtual 115, 3) := by decide +kernel
theorem dX11_lookByGroups_21 : decode cX11_lookByGroups 21 = .ok (.checkcast 264, 3) := by decide +kernel
theorem dX11_lookByGroups_24 : decode cX11_lookByGroups 24 = .ok (.invokevirtual 329, 3) := by decide +kernel
theorem dX11_lookByGroups_27 : decode cX11_lookByGroups 27 = .ok (.iinc 1 1, 3) := by decide +kernel
theorem dX11_lookByGroups_30 : decode cX11_lookByGroups 30 = .ok (.goto (-28), 3) := by decide +kernel
theorem dX11_lookByGroups_33 : decode cX11_lookByGroups 33 = .ok (.iconst 0, 1) := by decide +kernel
theorem dX11_lookByGroups_34 : decode cX11_lookByGroups 34 = .ok (.istore_n 1, 1) := by decide +kernel
theorem dX11_lookByGroups_35 : decode cX11_lookByGroups 35 = .ok (.iload_n 1, 1) := by decide +kernel
theorem dX11_lookByGroups_36 : decode cX11_lookByGroups 36 = .ok (.aload_n 0, 1) := by decide +kernel
theorem dX11_lookByGroups_37 : decode cX11_lookByGroups 37 = .ok (.getfield 22, 3) := by decide +kernel
theorem dX11_lookByGroups_40 : decode cX11_lookByGroups 40 = .ok (.invokevirtual 75, 3) := by decide +kernel
theorem dX11_lookByGroups_43 : decode cX11_lookByGroups 43 = .ok (.if_icmp .ge 37, 3) := by decide +kernel
theorem dX11_lookByGroups_46 : decode cX11_lookByGroups 46 = .ok (.aload_n 0, 1) := by decide +kernel
theorem dX11_lookByGroups_47 : decode cX11_lookByGroups 47 = .ok (.getfield 22, 3) := by decide +kernel
theorem dX11_lookByGroups_50 : decode cX11_lookByGroups 50 = .ok (.iload_n 1, 1) := by decide +kernel
theorem dX11_lookByGroups_51 : decode cX11_lookByGroups 51 = .ok (.invokevirtual 115, 3) := by decide +kernel
theorem dX11_lookByGroups_54 : decode cX11_lookByGroups 54 = .ok (.checkcast 240, 3) := by decide +kernel
theorem dX11_lookByGroups_57 : decode cX11_lookByGroups 57 = .ok (.getfield 332, 3) := by decide +kernel
theorem dX11_lookByGroups_60 : decode cX11_lookByGroups 60 = .ok (.aload_n 0, 1) := by decide +kernel
theorem dX11_lookByGroups_61 : decode cX11_lookByGroups 61 = .ok (.getfield 22, 3) := by decide +kernel
theorem dX11_lookByGroups_64 : decode cX11_lookByGroups 64 = .ok (.iload_n 1, 1) := by decide +kernel
theorem dX11_lookByGroups_65 : decode cX11_lookByGroups 65 = .ok (.invokevirtual 115, 3) := by decide +kernel
theorem dX11_lookByGroups_68 : decode cX11_lookByGroups 68 = .ok (.checkcast 240, 3) := by decide +kernel
theorem dX11_lookByGroups_71 : decode cX11_lookByGroups 71 = .ok (.invokevirtual 336, 3) := by decide +kernel
theorem dX11_lookByGroups_74 : decode cX11_lookByGroups 74 = .ok (.iinc 1 1, 3) := by decide +kernel
theorem dX11_lookByGroups_77 : decode cX11_lookByGroups 77 = .ok (.goto (-42), 3) := by decide +kernel
theorem dX11_lookByGroups_80 : decode cX11_lookByGroups 80 = .ok (.return_, 1) := by decide +kernel
theorem dX11_reasonOf_0 : decode cX11_reasonOf 0 = .ok (.aload_n 1, 1) := by decide +kernel
theorem dX11_reasonOf_1 : decode cX11_reasonOf 1 = .ok (.getfield 340, 3) := by decide +kernel
theorem dX11_reasonOf_4 : decode cX11_reasonOf 4 = .ok (.ifCond .ne 29, 3) := by decide +kernel
theorem dX11_reasonOf_7 : decode cX11_reasonOf 7 = .ok (.aload_n 1, 1) := by decide +kernel
theorem dX11_reasonOf_8 : decode cX11_reasonOf 8 = .ok (.invokevirtual 344, 3) := by decide +kernel
theorem dX11_reasonOf_11 : decode cX11_reasonOf 11 = .ok (.ifCond .eq 20, 3) := by decide +kernel
theorem dX11_reasonOf_14 : decode cX11_reasonOf 14 = .ok (.aload_n 1, 1) := by decide +kernel
theorem dX11_reasonOf_15 : decode cX11_reasonOf 15 = .ok (.getfield 347, 3) := by decide +kernel
theorem dX11_reasonOf_18 : decode cX11_reasonOf 18 = .ok (.iload_n 2, 1) := by decide +kernel
theorem dX11_reasonOf_19 : decode cX11_reasonOf 19 = .ok (.aload_n 0, 1) := by decide +kernel
theorem dX11_reasonOf_20 : decode cX11_reasonOf 20 = .ok (.getfield 55, 3) := by decide +kernel
theorem dX11_reasonOf_23 : decode cX11_reasonOf 23 = .ok (.isub, 1) := by decide +kernel
theorem dX11_reasonOf_24 : decode cX11_reasonOf 24 = .ok (.if_icmp .gt 7, 3) := by decide +kernel
theorem dX11_reasonOf_27 : decode cX11_reasonOf 27 = .ok (.iconst 1, 1) := by decide +kernel
theorem dX11_reasonOf_28 : decode cX11_reasonOf 28 = .ok (.goto 4, 3) := by decide +kernel
theorem dX11_reasonOf_31 : decode cX11_reasonOf 31 = .ok (.iconst 0, 1) := by decide +kernel
theorem dX11_reasonOf_32 : decode cX11_reasonOf 32 = .ok (.ireturn, 1) := by decide +kernel
theorem dX11_reasonOf_33 : decode cX11_reasonOf 33 = .ok (.aload_n 1, 1) := by decide +kernel
theorem dX11_reasonOf_34 : decode cX11_reasonOf 34 = .ok (.invokevirtual 344, 3) := by decide +kernel
theorem dX11_reasonOf_37 : decode cX11_reasonOf 37 = .ok (.ifCond .eq 18, 3) := by decide +kernel
theorem dX11_reasonOf_40 : decode cX11_reasonOf 40 = .ok (.iload_n 2, 1) := by decide +kernel
theorem dX11_reasonOf_41 : decode cX11_reasonOf 41 = .ok (.aload_n 1, 1) := by decide +kernel
theorem dX11_reasonOf_42 : decode cX11_reasonOf 42 = .ok (.getfield 350, 3) := by decide +kernel
theorem dX11_reasonOf_45 : decode cX11_reasonOf 45 = .ok (.aload_n 0, 1) := by decide +kernel
theorem dX11_reasonOf_46 : decode cX11_reasonOf 46 = .ok (.getfield 58, 3) := by decide +kernel
theorem dX11_reasonOf_49 : decode cX11_reasonOf 49 = .ok (.iadd, 1) := by decide +kernel
theorem dX11_reasonOf_50 : decode cX11_reasonOf 50 = .ok (.if_icmp .lt 5, 3) := by decide +kernel
theorem dX11_reasonOf_53 : decode cX11_reasonOf 53 = .ok (.iconst 2, 1) := by decide +kernel
theorem dX11_reasonOf_54 : decode cX11_reasonOf 54 = .ok (.ireturn, 1) := by decide +kernel
theorem dX11_reasonOf_55 : decode cX11_reasonOf 55 = .ok (.aload_n 1, 1) := by decide +kernel
theorem dX11_reasonOf_56 : decode cX11_reasonOf 56 = .ok (.getfield 353, 3) := by decide +kernel
theorem dX11_reasonOf_59 : decode cX11_reasonOf 59 = .ok (.ifCond .eq 18, 3) := by decide +kernel
theorem dX11_reasonOf_62 : decode cX11_reasonOf 62 = .ok (.iload_n 2, 1) := by decide +kernel
theorem dX11_reasonOf_63 : decode cX11_reasonOf 63 = .ok (.aload_n 1, 1) := by decide +kernel
theorem dX11_reasonOf_64 : decode cX11_reasonOf 64 = .ok (.getfield 350, 3) := by decide +kernel
theorem dX11_reasonOf_67 : decode cX11_reasonOf 67 = .ok (.aload_n 0, 1) := by decide +kernel
theorem dX11_reasonOf_68 : decode cX11_reasonOf 68 = .ok (.getfield 61, 3) := by decide +kernel
theorem dX11_reasonOf_71 : decode cX11_reasonOf 71 = .ok (.iadd, 1) := by decide +kernel
theorem dX11_reasonOf_72 : decode cX11_reasonOf 72 = .ok (.if_icmp .lt 5, 3) := by decide +kernel
theorem dX11_reasonOf_75 : decode cX11_reasonOf 75 = .ok (.iconst 3, 1) := by decide +kernel
theorem dX11_reasonOf_76 : decode cX11_reasonOf 76 = .ok (.ireturn, 1) := by decide +kernel
theorem dX11_reasonOf_77 : decode cX11_reasonOf 77 = .ok (.aload_n 1, 1) := by decide +kernel
theorem dX11_reasonOf_78 : decode cX11_reasonOf 78 = .ok (.getfield 356, 3) := by decide +kernel
theorem dX11_reasonOf_81 : decode cX11_reasonOf 81 = .ok (.ifCond .eq 7, 3) := by decide +kernel
theorem dX11_reasonOf_84 : decode cX11_reasonOf 84 = .ok (.iconst 0, 1) := by decide +kernel
theorem dX11_reasonOf_85 : decode cX11_reasonOf 85 = .ok (.goto 4, 3) := by decide +kernel
theorem dX11_reasonOf_88 : decode cX11_reasonOf 88 = .ok (.iconst 4, 1) := by decide +kernel
theorem dX11_reasonOf_89 : decode cX11_reasonOf 89 = .ok (.ireturn, 1) := by decide +kernel
theorem dX11_sendLetter_0 : decode cX11_sendLetter 0 = .ok (.new 313, 3) := by decide +kernel
theorem dX11_sendLetter_3 : decode cX11_sendLetter 3 = .ok (.dup, 1) := by decide +kernel
theorem dX11_sendLetter_4 : decode cX11_sendLetter 4 = .ok (.aload_n 1, 1) := by decide +kernel
theorem dX11_sendLetter_5 : decode cX11_sendLetter 5 = .ok (.iload_n 2, 1) := by decide +kernel
theorem dX11_sendLetter_6 : decode cX11_sendLetter 6 = .ok (.iload_n 3, 1) := by decide +kernel
theorem dX11_sendLetter_7 : decode cX11_sendLetter 7 = .ok (.invokespecial 359, 3) := by decide +kernel
theorem dX11_sendLetter_10 : decode cX11_sendLetter 10 = .ok (.astore 4, 2) := by decide +kernel
theorem dX11_sendLetter_12 : decode cX11_sendLetter 12 = .ok (.iconst 0, 1) := by decide +kernel
theorem dX11_sendLetter_13 : decode cX11_sendLetter 13 = .ok (.istore 5, 2) := by decide +kernel
theorem dX11_sendLetter_15 : decode cX11_sendLetter 15 = .ok (.iload 5, 2) := by decide +kernel
theorem dX11_sendLetter_17 : decode cX11_sendLetter 17 = .ok (.aload_n 0, 1) := by decide +kernel
theorem dX11_sendLetter_18 : decode cX11_sendLetter 18 = .ok (.getfield 22, 3) := by decide +kernel
theorem dX11_sendLetter_21 : decode cX11_sendLetter 21 = .ok (.invokevirtual 75, 3) := by decide +kernel
theorem dX11_sendLetter_24 : decode cX11_sendLetter 24 = .ok (.if_icmp .ge 55, 3) := by decide +kernel
theorem dX11_sendLetter_27 : decode cX11_sendLetter 27 = .ok (.aload_n 0, 1) := by decide +kernel
theorem dX11_sendLetter_28 : decode cX11_sendLetter 28 = .ok (.getfield 22, 3) := by decide +kernel
theorem dX11_sendLetter_31 : decode cX11_sendLetter 31 = .ok (.iload 5, 2) := by decide +kernel
theorem dX11_sendLetter_33 : decode cX11_sendLetter 33 = .ok (.invokevirtual 115, 3) := by decide +kernel
theorem dX11_sendLetter_36 : decode cX11_sendLetter 36 = .ok (.checkcast 240, 3) := by decide +kernel
theorem dX11_sendLetter_39 : decode cX11_sendLetter 39 = .ok (.astore 6, 2) := by decide +kernel
theorem dX11_sendLetter_41 : decode cX11_sendLetter 41 = .ok (.aload 6, 2) := by decide +kernel
theorem dX11_sendLetter_43 : decode cX11_sendLetter 43 = .ok (.getfield 332, 3) := by decide +kernel
theorem dX11_sendLetter_46 : decode cX11_sendLetter 46 = .ok (.aload_n 1, 1) := by decide +kernel
theorem dX11_sendLetter_47 : decode cX11_sendLetter 47 = .ok (.if_acmp .ne 26, 3) := by decide +kernel
theorem dX11_sendLetter_50 : decode cX11_sendLetter 50 = .ok (.aload 6, 2) := by decide +kernel
theorem dX11_sendLetter_52 : decode cX11_sendLetter 52 = .ok (.invokevirtual 361, 3) := by decide +kernel
theorem dX11_sendLetter_55 : decode cX11_sendLetter 55 = .ok (.ifCond .eq 18, 3) := by decide +kernel
theorem dX11_sendLetter_58 : decode cX11_sendLetter 58 = .ok (.aload 4, 2) := by decide +kernel
theorem dX11_sendLetter_60 : decode cX11_sendLetter 60 = .ok (.aload 6, 2) := by decide +kernel
theorem dX11_sendLetter_62 : decode cX11_sendLetter 62 = .ok (.invokevirtual 364, 3) := by decide +kernel
theorem dX11_sendLetter_65 : decode cX11_sendLetter 65 = .ok (.ifCond .eq 8, 3) := by decide +kernel
theorem dX11_sendLetter_68 : decode cX11_sendLetter 68 = .ok (.aload 6, 2) := by decide +kernel
theorem dX11_sendLetter_70 : decode cX11_sendLetter 70 = .ok (.invokevirtual 366, 3) := by decide +kernel
theorem dX11_sendLetter_73 : decode cX11_sendLetter 73 = .ok (.iinc 5 1, 3) := by decide +kernel
theorem dX11_sendLetter_76 : decode cX11_sendLetter 76 = .ok (.goto (-61), 3) := by decide +kernel
theorem dX11_sendLetter_79 : decode cX11_sendLetter 79 = .ok (.iconst 0, 1) := by decide +kernel
theorem dX11_sendLetter_80 : decode cX11_sendLetter 80 = .ok (.istore 5, 2) := by decide +kernel
theorem dX11_sendLetter_82 : decode cX11_sendLetter 82 = .ok (.iload 5, 2) := by decide +kernel
theorem dX11_sendLetter_84 : decode cX11_sendLetter 84 = .ok (.aload_n 0, 1) := by decide +kernel
theorem dX11_sendLetter_85 : decode cX11_sendLetter 85 = .ok (.getfield 22, 3) := by decide +kernel
theorem dX11_sendLetter_88 : decode cX11_sendLetter 88 = .ok (.invokevirtual 75, 3) := by decide +kernel
theorem dX11_sendLetter_91 : decode cX11_sendLetter 91 = .ok (.if_icmp .ge 55, 3) := by decide +kernel
theorem dX11_sendLetter_94 : decode cX11_sendLetter 94 = .ok (.aload_n 0, 1) := by decide +kernel
theorem dX11_sendLetter_95 : decode cX11_sendLetter 95 = .ok (.getfield 22, 3) := by decide +kernel
theorem dX11_sendLetter_98 : decode cX11_sendLetter 98 = .ok (.iload 5, 2) := by decide +kernel
theorem dX11_sendLetter_100 : decode cX11_sendLetter 100 = .ok (.invokevirtual 115, 3) := by decide +kernel
theorem dX11_sendLetter_103 : decode cX11_sendLetter 103 = .ok (.checkcast 240, 3) := by decide +kernel
theorem dX11_sendLetter_106 : decode cX11_sendLetter 106 = .ok (.astore 6, 2) := by decide +kernel
theorem dX11_sendLetter_108 : decode cX11_sendLetter 108 = .ok (.aload 6, 2) := by decide +kernel
theorem dX11_sendLetter_110 : decode cX11_sendLetter 110 = .ok (.getfield 332, 3) := by decide +kernel
theorem dX11_sendLetter_113 : decode cX11_sendLetter 113 = .ok (.aload_n 1, 1) := by decide +kernel
theorem dX11_sendLetter_114 : decode cX11_sendLetter 114 = .ok (.if_acmp .ne 26, 3) := by decide +kernel
theorem dX11_sendLetter_117 : decode cX11_sendLetter 117 = .ok (.aload 6, 2) := by decide +kernel
theorem dX11_sendLetter_119 : decode cX11_sendLetter 119 = .ok (.invokevirtual 369, 3) := by decide +kernel
theorem dX11_sendLetter_122 : decode cX11_sendLetter 122 = .ok (.ifCond .eq 18, 3) := by decide +kernel
theorem dX11_sendLetter_125 : decode cX11_sendLetter 125 = .ok (.aload 4, 2) := by decide +kernel
theorem dX11_sendLetter_127 : decode cX11_sendLetter 127 = .ok (.aload 6, 2) := by decide +kernel
theorem dX11_sendLetter_129 : decode cX11_sendLetter 129 = .ok (.invokevirtual 364, 3) := by decide +kernel
theorem dX11_sendLetter_132 : decode cX11_sendLetter 132 = .ok (.ifCond .eq 8, 3) := by decide +kernel
theorem dX11_sendLetter_135 : decode cX11_sendLetter 135 = .ok (.aload 6, 2) := by decide +kernel
theorem dX11_sendLetter_137 : decode cX11_sendLetter 137 = .ok (.invokevirtual 372, 3) := by decide +kernel
theorem dX11_sendLetter_140 : decode cX11_sendLetter 140 = .ok (.iinc 5 1, 3) := by decide +kernel
theorem dX11_sendLetter_143 : decode cX11_sendLetter 143 = .ok (.goto (-61), 3) := by decide +kernel
theorem dX11_sendLetter_146 : decode cX11_sendLetter 146 = .ok (.aload 4, 2) := by decide +kernel
theorem dX11_sendLetter_148 : decode cX11_sendLetter 148 = .ok (.aload_n 0, 1) := by decide +kernel
theorem dX11_sendLetter_149 : decode cX11_sendLetter 149 = .ok (.getfield 40, 3) := by decide +kernel
theorem dX11_sendLetter_152 : decode cX11_sendLetter 152 = .ok (.iload_n 3, 1) := by decide +kernel
theorem dX11_sendLetter_153 : decode cX11_sendLetter 153 = .ok (.aload 4, 2) := by decide +kernel
theorem dX11_sendLetter_155 : decode cX11_sendLetter 155 = .ok (.getfield 375, 3) := by decide +kernel
theorem dX11_sendLetter_158 : decode cX11_sendLetter 158 = .ok (.invokevirtual 378, 3) := by decide +kernel
theorem dX11_sendLetter_161 : decode cX11_sendLetter 161 = .ok (.putfield 382, 3) := by decide +kernel
theorem dX11_sendLetter_164 : decode cX11_sendLetter 164 = .ok (.aload_n 0, 1) := by decide +kernel
theorem dX11_sendLetter_165 : decode cX11_sendLetter 165 = .ok (.getfield 28, 3) := by decide +kernel
theorem dX11_sendLetter_168 : decode cX11_sendLetter 168 = .ok (.aload 4, 2) := by decide +kernel
theorem dX11_sendLetter_170 : decode cX11_sendLetter 170 = .ok (.invokevirtual 84, 3) := by decide +kernel
theorem dX11_sendLetter_173 : decode cX11_sendLetter 173 = .ok (.pop, 1) := by decide +kernel
theorem dX11_sendLetter_174 : decode cX11_sendLetter 174 = .ok (.aload_n 1, 1) := by decide +kernel
theorem dX11_sendLetter_175 : decode cX11_sendLetter 175 = .ok (.iload_n 2, 1) := by decide +kernel
theorem dX11_sendLetter_176 : decode cX11_sendLetter 176 = .ok (.iconst 4, 1) := by decide +kernel
theorem dX11_sendLetter_177 : decode cX11_sendLetter 177 = .ok (.if_icmp .eq 7, 3) := by decide +kernel
theorem dX11_sendLetter_180 : decode cX11_sendLetter 180 = .ok (.iconst 1, 1) := by decide +kernel
theorem dX11_sendLetter_181 : decode cX11_sendLetter 181 = .ok (.goto 4, 3) := by decide +kernel
theorem dX11_sendLetter_184 : decode cX11_sendLetter 184 = .ok (.iconst 0, 1) := by decide +kernel
theorem dX11_sendLetter_185 : decode cX11_sendLetter 185 = .ok (.putfield 340, 3) := by decide +kernel
theorem dX11_sendLetter_188 : decode cX11_sendLetter 188 = .ok (.aload_n 1, 1) := by decide +kernel
theorem dX11_sendLetter_189 : decode cX11_sendLetter 189 = .ok (.iload_n 3, 1) := by decide +kernel
theorem dX11_sendLetter_190 : decode cX11_sendLetter 190 = .ok (.putfield 350, 3) := by decide +kernel
theorem dX11_sendLetter_193 : decode cX11_sendLetter 193 = .ok (.return_, 1) := by decide +kernel
theorem dX11_truth_0 : decode cX11_truth 0 = .ok (.aload_n 0, 1) := by decide +kernel
theorem dX11_truth_1 : decode cX11_truth 1 = .ok (.iload_n 1, 1) := by decide +kernel
theorem dX11_truth_2 : decode cX11_truth 2 = .ok (.iload_n 2, 1) := by decide +kernel
theorem dX11_truth_3 : decode cX11_truth 3 = .ok (.invokevirtual 247, 3) := by decide +kernel
theorem dX11_truth_6 : decode cX11_truth 6 = .ok (.astore_n 3, 1) := by decide +kernel
theorem dX11_truth_7 : decode cX11_truth 7 = .ok (.aload_n 3, 1) := by decide +kernel
theorem dX11_truth_8 : decode cX11_truth 8 = .ok (.ifnonnull 6, 3) := by decide +kernel
theorem dX11_truth_11 : decode cX11_truth 11 = .ok (.bipush (-2), 2) := by decide +kernel
theorem dX11_truth_13 : decode cX11_truth 13 = .ok (.ireturn, 1) := by decide +kernel
theorem dX11_truth_14 : decode cX11_truth 14 = .ok (.aload_n 0, 1) := by decide +kernel
theorem dX11_truth_15 : decode cX11_truth 15 = .ok (.getfield 67, 3) := by decide +kernel
theorem dX11_truth_18 : decode cX11_truth 18 = .ok (.ifCond .ne 8, 3) := by decide +kernel
theorem dX11_truth_21 : decode cX11_truth 21 = .ok (.bipush (-3), 2) := by decide +kernel
theorem dX11_truth_23 : decode cX11_truth 23 = .ok (.goto 7, 3) := by decide +kernel
theorem dX11_truth_26 : decode cX11_truth 26 = .ok (.aload_n 3, 1) := by decide +kernel
theorem dX11_truth_27 : decode cX11_truth 27 = .ok (.getfield 254, 3) := by decide +kernel
theorem dX11_truth_30 : decode cX11_truth 30 = .ok (.ireturn, 1) := by decide +kernel
theorem dX11_counts_0 : decode cX11_counts 0 = .ok (.aload_n 0, 1) := by decide +kernel
theorem dX11_counts_1 : decode cX11_counts 1 = .ok (.iload_n 1, 1) := by decide +kernel
theorem dX11_counts_2 : decode cX11_counts 2 = .ok (.iload_n 2, 1) := by decide +kernel
theorem dX11_counts_3 : decode cX11_counts 3 = .ok (.invokevirtual 247, 3) := by decide +kernel
theorem dX11_counts_6 : decode cX11_counts 6 = .ok (.astore 4, 2) := by decide +kernel
theorem dX11_counts_8 : decode cX11_counts 8 = .ok (.aload 4, 2) := by decide +kernel
theorem dX11_counts_10 : decode cX11_counts 10 = .ok (.ifnonnull 5, 3) := by decide +kernel
theorem dX11_counts_13 : decode cX11_counts 13 = .ok (.iconst (-1), 1) := by decide +kernel
theorem dX11_counts_14 : decode cX11_counts 14 = .ok (.ireturn, 1) := by decide +kernel
theorem dX11_counts_15 : decode cX11_counts 15 = .ok (.iload_n 3, 1) := by decide +kernel
theorem dX11_counts_16 : decode cX11_counts 16 = .ok (.tableswitch 62 0 2 #[28, 34, 40], 28) := by decide +kernel
theorem dX11_counts_44 : decode cX11_counts 44 = .ok (.aload 4, 2) := by decide +kernel
theorem dX11_counts_46 : decode cX11_counts 46 = .ok (.getfield 223, 3) := by decide +kernel
theorem dX11_counts_49 : decode cX11_counts 49 = .ok (.ireturn, 1) := by decide +kernel
theorem dX11_counts_50 : decode cX11_counts 50 = .ok (.aload 4, 2) := by decide +kernel
theorem dX11_counts_52 : decode cX11_counts 52 = .ok (.getfield 233, 3) := by decide +kernel
theorem dX11_counts_55 : decode cX11_counts 55 = .ok (.ireturn, 1) := by decide +kernel
theorem dX11_counts_56 : decode cX11_counts 56 = .ok (.aload 4, 2) := by decide +kernel
theorem dX11_counts_58 : decode cX11_counts 58 = .ok (.getfield 219, 3) := by decide +kernel
theorem dX11_counts_61 : decode cX11_counts 61 = .ok (.ifnonnull 8, 3) := by decide +kernel
theorem dX11_counts_64 : decode cX11_counts 64 = .ok (.bipush (-2), 2) := by decide +kernel
theorem dX11_counts_66 : decode cX11_counts 66 = .ok (.goto 11, 3) := by decide +kernel
theorem dX11_counts_69 : decode cX11_counts 69 = .ok (.aload 4, 2) := by decide +kernel
theorem dX11_counts_71 : decode cX11_counts 71 = .ok (.getfield 219, 3) := by decide +kernel
theorem dX11_counts_74 : decode cX11_counts 74 = .ok (.getfield 385, 3) := by decide +kernel
theorem dX11_counts_77 : decode cX11_counts 77 = .ok (.ireturn, 1) := by decide +kernel
theorem dX11_counts_78 : decode cX11_counts 78 = .ok (.iconst (-1), 1) := by decide +kernel
theorem dX11_counts_79 : decode cX11_counts 79 = .ok (.ireturn, 1) := by decide +kernel
theorem dX11_alarm_0 : decode cX11_alarm 0 = .ok (.aload_n 0, 1) := by decide +kernel
theorem dX11_alarm_1 : decode cX11_alarm 1 = .ok (.iload_n 1, 1) := by decide +kernel
theorem dX11_alarm_2 : decode cX11_alarm 2 = .ok (.invokevirtual 386, 3) := by decide +kernel
theorem dX11_alarm_5 : decode cX11_alarm 5 = .ok (.astore_n 3, 1) := by decide +kernel
theorem dX11_alarm_6 : decode cX11_alarm 6 = .ok (.aload_n 3, 1) := by decide +kernel
theorem dX11_alarm_7 : decode cX11_alarm 7 = .ok (.ifnonnull 5, 3) := by decide +kernel
theorem dX11_alarm_10 : decode cX11_alarm 10 = .ok (.iconst (-1), 1) := by decide +kernel
theorem dX11_alarm_11 : decode cX11_alarm 11 = .ok (.ireturn, 1) := by decide +kernel
theorem dX11_alarm_12 : decode cX11_alarm 12 = .ok (.iload_n 2, 1) := by decide +kernel
theorem dX11_alarm_13 : decode cX11_alarm 13 = .ok (.tableswitch 111 0 8 #[51, 59, 67, 72, 77, 85, 93, 101, 106], 51) := by decide +kernel
theorem dX11_alarm_64 : decode cX11_alarm 64 = .ok (.aload_n 3, 1) := by decide +kernel
theorem dX11_alarm_65 : decode cX11_alarm 65 = .ok (.getfield 289, 3) := by decide +kernel
theorem dX11_alarm_68 : decode cX11_alarm 68 = .ok (.getfield 101, 3) := by decide +kernel
theorem dX11_alarm_71 : decode cX11_alarm 71 = .ok (.ireturn, 1) := by decide +kernel
theorem dX11_alarm_72 : decode cX11_alarm 72 = .ok (.aload_n 3, 1) := by decide +kernel
theorem dX11_alarm_73 : decode cX11_alarm 73 = .ok (.getfield 296, 3) := by decide +kernel
theorem dX11_alarm_76 : decode cX11_alarm 76 = .ok (.getfield 190, 3) := by decide +kernel
theorem dX11_alarm_79 : decode cX11_alarm 79 = .ok (.ireturn, 1) := by decide +kernel
theorem dX11_alarm_80 : decode cX11_alarm 80 = .ok (.aload_n 3, 1) := by decide +kernel
theorem dX11_alarm_81 : decode cX11_alarm 81 = .ok (.getfield 390, 3) := by decide +kernel
theorem dX11_alarm_84 : decode cX11_alarm 84 = .ok (.ireturn, 1) := by decide +kernel
theorem dX11_alarm_85 : decode cX11_alarm 85 = .ok (.aload_n 3, 1) := by decide +kernel
theorem dX11_alarm_86 : decode cX11_alarm 86 = .ok (.getfield 393, 3) := by decide +kernel
theorem dX11_alarm_89 : decode cX11_alarm 89 = .ok (.ireturn, 1) := by decide +kernel
theorem dX11_alarm_90 : decode cX11_alarm 90 = .ok (.aload_n 3, 1) := by decide +kernel
theorem dX11_alarm_91 : decode cX11_alarm 91 = .ok (.getfield 289, 3) := by decide +kernel
theorem dX11_alarm_94 : decode cX11_alarm 94 = .ok (.getfield 396, 3) := by decide +kernel
theorem dX11_alarm_97 : decode cX11_alarm 97 = .ok (.ireturn, 1) := by decide +kernel
theorem dX11_alarm_98 : decode cX11_alarm 98 = .ok (.aload_n 3, 1) := by decide +kernel
theorem dX11_alarm_99 : decode cX11_alarm 99 = .ok (.getfield 399, 3) := by decide +kernel
theorem dX11_alarm_102 : decode cX11_alarm 102 = .ok (.invokestatic 165, 3) := by decide +kernel
theorem dX11_alarm_105 : decode cX11_alarm 105 = .ok (.ireturn, 1) := by decide +kernel
theorem dX11_alarm_106 : decode cX11_alarm 106 = .ok (.aload_n 3, 1) := by decide +kernel
theorem dX11_alarm_107 : decode cX11_alarm 107 = .ok (.getfield 402, 3) := by decide +kernel
theorem dX11_alarm_110 : decode cX11_alarm 110 = .ok (.invokestatic 165, 3) := by decide +kernel
theorem dX11_alarm_113 : decode cX11_alarm 113 = .ok (.ireturn, 1) := by decide +kernel
theorem dX11_alarm_114 : decode cX11_alarm 114 = .ok (.aload_n 3, 1) := by decide +kernel
theorem dX11_alarm_115 : decode cX11_alarm 115 = .ok (.getfield 405, 3) := by decide +kernel
theorem dX11_alarm_118 : decode cX11_alarm 118 = .ok (.ireturn, 1) := by decide +kernel
theorem dX11_alarm_119 : decode cX11_alarm 119 = .ok (.aload_n 3, 1) := by decide +kernel
theorem dX11_alarm_120 : decode cX11_alarm 120 = .ok (.getfield 408, 3) := by decide +kernel
theorem dX11_alarm_123 : decode cX11_alarm 123 = .ok (.ireturn, 1) := by decide +kernel
theorem dX11_alarm_124 : decode cX11_alarm 124 = .ok (.iconst (-1), 1) := by decide +kernel
theorem dX11_alarm_125 : decode cX11_alarm 125 = .ok (.ireturn, 1) := by decide +kernel
theorem dX11_letter_0 : decode cX11_letter 0 = .ok (.aload_n 0, 1) := by decide +kernel
theorem dX11_letter_1 : decode cX11_letter 1 = .ok (.iload_n 1, 1) := by decide +kernel
theorem dX11_letter_2 : decode cX11_letter 2 = .ok (.invokevirtual 410, 3) := by decide +kernel
theorem dX11_letter_5 : decode cX11_letter 5 = .ok (.astore_n 3, 1) := by decide +kernel
theorem dX11_letter_6 : decode cX11_letter 6 = .ok (.aload_n 3, 1) := by decide +kernel
theorem dX11_letter_7 : decode cX11_letter 7 = .ok (.ifnonnull 5, 3) := by decide +kernel
theorem dX11_letter_10 : decode cX11_letter 10 = .ok (.iconst (-1), 1) := by decide +kernel
theorem dX11_letter_11 : decode cX11_letter 11 = .ok (.ireturn, 1) := by decide +kernel
theorem dX11_letter_12 : decode cX11_letter 12 = .ok (.iload_n 2, 1) := by decide +kernel
theorem dX11_letter_13 : decode cX11_letter 13 = .ok (.tableswitch 121 0 8 #[51, 56, 74, 79, 84, 89, 94, 99, 104], 51) := by decide +kernel
theorem dX11_letter_64 : decode cX11_letter 64 = .ok (.aload_n 3, 1) := by decide +kernel
theorem dX11_letter_65 : decode cX11_letter 65 = .ok (.getfield 414, 3) := by decide +kernel
theorem dX11_letter_68 : decode cX11_letter 68 = .ok (.ireturn, 1) := by decide +kernel
theorem dX11_letter_69 : decode cX11_letter 69 = .ok (.aload_n 3, 1) := by decide +kernel
theorem dX11_letter_70 : decode cX11_letter 70 = .ok (.getfield 417, 3) := by decide +kernel
theorem dX11_letter_73 : decode cX11_letter 73 = .ok (.ifCond .ne 8, 3) := by decide +kernel
theorem dX11_letter_76 : decode cX11_letter 76 = .ok (.bipush (-2), 2) := by decide +kernel
theorem dX11_letter_78 : decode cX11_letter 78 = .ok (.goto 8, 3) := by decide +kernel
theorem dX11_letter_81 : decode cX11_letter 81 = .ok (.aload_n 3, 1) := by decide +kernel
theorem dX11_letter_82 : decode cX11_letter 82 = .ok (.iconst 0, 1) := by decide +kernel
theorem dX11_letter_83 : decode cX11_letter 83 = .ok (.invokevirtual 419, 3) := by decide +kernel
theorem dX11_letter_86 : decode cX11_letter 86 = .ok (.ireturn, 1) := by decide +kernel
theorem dX11_letter_87 : decode cX11_letter 87 = .ok (.aload_n 3, 1) := by decide +kernel
theorem dX11_letter_88 : decode cX11_letter 88 = .ok (.getfield 417, 3) := by decide +kernel
theorem dX11_letter_91 : decode cX11_letter 91 = .ok (.ireturn, 1) := by decide +kernel
theorem dX11_letter_92 : decode cX11_letter 92 = .ok (.aload_n 3, 1) := by decide +kernel
theorem dX11_letter_93 : decode cX11_letter 93 = .ok (.invokevirtual 421, 3) := by decide +kernel
theorem dX11_letter_96 : decode cX11_letter 96 = .ok (.ireturn, 1) := by decide +kernel
theorem dX11_letter_97 : decode cX11_letter 97 = .ok (.aload_n 3, 1) := by decide +kernel
theorem dX11_letter_98 : decode cX11_letter 98 = .ok (.getfield 424, 3) := by decide +kernel
theorem dX11_letter_101 : decode cX11_letter 101 = .ok (.ireturn, 1) := by decide +kernel
theorem dX11_letter_102 : decode cX11_letter 102 = .ok (.aload_n 3, 1) := by decide +kernel
theorem dX11_letter_103 : decode cX11_letter 103 = .ok (.getfield 427, 3) := by decide +kernel
theorem dX11_letter_106 : decode cX11_letter 106 = .ok (.ireturn, 1) := by decide +kernel
theorem dX11_letter_107 : decode cX11_letter 107 = .ok (.aload_n 3, 1) := by decide +kernel
theorem dX11_letter_108 : decode cX11_letter 108 = .ok (.getfield 430, 3) := by decide +kernel
theorem dX11_letter_111 : decode cX11_letter 111 = .ok (.ireturn, 1) := by decide +kernel
theorem dX11_letter_112 : decode cX11_letter 112 = .ok (.aload_n 3, 1) := by decide +kernel
theorem dX11_letter_113 : decode cX11_letter 113 = .ok (.getfield 382, 3) := by decide +kernel
theorem dX11_letter_116 : decode cX11_letter 116 = .ok (.ireturn, 1) := by decide +kernel
theorem dX11_letter_117 : decode cX11_letter 117 = .ok (.aload_n 3, 1) := by decide +kernel
theorem dX11_letter_118 : decode cX11_letter 118 = .ok (.getfield 433, 3) := by decide +kernel
theorem dX11_letter_121 : decode cX11_letter 121 = .ok (.iconst 4, 1) := by decide +kernel
theorem dX11_letter_122 : decode cX11_letter 122 = .ok (.if_icmp .ne 7, 3) := by decide +kernel
theorem dX11_letter_125 : decode cX11_letter 125 = .ok (.iconst 1, 1) := by decide +kernel
theorem dX11_letter_126 : decode cX11_letter 126 = .ok (.goto 4, 3) := by decide +kernel
theorem dX11_letter_129 : decode cX11_letter 129 = .ok (.iconst 0, 1) := by decide +kernel
theorem dX11_letter_130 : decode cX11_letter 130 = .ok (.invokestatic 165, 3) := by decide +kernel
theorem dX11_letter_133 : decode cX11_letter 133 = .ok (.ireturn, 1) := by decide +kernel
theorem dX11_letter_134 : decode cX11_letter 134 = .ok (.iconst (-1), 1) := by decide +kernel
theorem dX11_letter_135 : decode cX11_letter 135 = .ok (.ireturn, 1) := by decide +kernel
theorem dX11_holds_0 : decode cX11_holds 0 = .ok (.aload_n 0, 1) := by decide +kernel
theorem dX11_holds_1 : decode cX11_holds 1 = .ok (.iload_n 1, 1) := by decide +kernel
theorem dX11_holds_2 : decode cX11_holds 2 = .ok (.invokevirtual 410, 3) := by decide +kernel
theorem dX11_holds_5 : decode cX11_holds 5 = .ok (.astore_n 3, 1) := by decide +kernel
theorem dX11_holds_6 : decode cX11_holds 6 = .ok (.aload_n 3, 1) := by decide +kernel
theorem dX11_holds_7 : decode cX11_holds 7 = .ok (.ifnonnull 7, 3) := by decide +kernel
theorem dX11_holds_10 : decode cX11_holds 10 = .ok (.iconst (-1), 1) := by decide +kernel
theorem dX11_holds_11 : decode cX11_holds 11 = .ok (.goto 8, 3) := by decide +kernel
theorem dX11_holds_14 : decode cX11_holds 14 = .ok (.aload_n 3, 1) := by decide +kernel
theorem dX11_holds_15 : decode cX11_holds 15 = .ok (.iload_n 2, 1) := by decide +kernel
theorem dX11_holds_16 : decode cX11_holds 16 = .ok (.invokevirtual 419, 3) := by decide +kernel
theorem dX11_holds_19 : decode cX11_holds 19 = .ok (.ireturn, 1) := by decide +kernel
theorem dX11_why_0 : decode cX11_why 0 = .ok (.aload_n 0, 1) := by decide +kernel
theorem dX11_why_1 : decode cX11_why 1 = .ok (.iload_n 1, 1) := by decide +kernel
theorem dX11_why_2 : decode cX11_why 2 = .ok (.invokevirtual 410, 3) := by decide +kernel
theorem dX11_why_5 : decode cX11_why 5 = .ok (.astore_n 2, 1) := by decide +kernel
theorem dX11_why_6 : decode cX11_why 6 = .ok (.aload_n 2, 1) := by decide +kernel
theorem dX11_why_7 : decode cX11_why 7 = .ok (.ifnonnull 7, 3) := by decide +kernel
theorem dX11_why_10 : decode cX11_why 10 = .ok (.iconst (-1), 1) := by decide +kernel
theorem dX11_why_11 : decode cX11_why 11 = .ok (.goto 7, 3) := by decide +kernel
theorem dX11_why_14 : decode cX11_why 14 = .ok (.aload_n 2, 1) := by decide +kernel
theorem dX11_why_15 : decode cX11_why 15 = .ok (.getfield 433, 3) := by decide +kernel
theorem dX11_why_18 : decode cX11_why 18 = .ok (.ireturn, 1) := by decide +kernel
theorem dX11_whyNot_0 : decode cX11_whyNot 0 = .ok (.aload_n 0, 1) := by decide +kernel
theorem dX11_whyNot_1 : decode cX11_whyNot 1 = .ok (.iload_n 1, 1) := by decide +kernel
theorem dX11_whyNot_2 : decode cX11_whyNot 2 = .ok (.iload_n 2, 1) := by decide +kernel
theorem dX11_whyNot_3 : decode cX11_whyNot 3 = .ok (.invokevirtual 247, 3) := by decide +kernel
theorem dX11_whyNot_6 : decode cX11_whyNot 6 = .ok (.astore_n 3, 1) := by decide +kernel
theorem dX11_whyNot_7 : decode cX11_whyNot 7 = .ok (.aload_n 3, 1) := by decide +kernel
theorem dX11_whyNot_8 : decode cX11_whyNot 8 = .ok (.ifnonnull 5, 3) := by decide +kernel
theorem dX11_whyNot_11 : decode cX11_whyNot 11 = .ok (.iconst (-1), 1) := by decide +kernel
theorem dX11_whyNot_12 : decode cX11_whyNot 12 = .ok (.ireturn, 1) := by decide +kernel
theorem dX11_whyNot_13 : decode cX11_whyNot 13 = .ok (.aload_n 3, 1) := by decide +kernel
theorem dX11_whyNot_14 : decode cX11_whyNot 14 = .ok (.getfield 219, 3) := by decide +kernel
theorem dX11_whyNot_17 : decode cX11_whyNot 17 = .ok (.ifnonnull 16, 3) := by decide +kernel
theorem dX11_whyNot_20 : decode cX11_whyNot 20 = .ok (.aload_n 3, 1) := by decide +kernel
theorem dX11_whyNot_21 : decode cX11_whyNot 21 = .ok (.getfield 223, 3) := by decide +kernel
theorem dX11_whyNot_24 : decode cX11_whyNot 24 = .ok (.ifCond .le 7, 3) := by decide +kernel
theorem dX11_whyNot_27 : decode cX11_whyNot 27 = .ok (.iconst 1, 1) := by decide +kernel
theorem dX11_whyNot_28 : decode cX11_whyNot 28 = .ok (.goto 4, 3) := by decide +kernel
theorem dX11_whyNot_31 : decode cX11_whyNot 31 = .ok (.iconst 0, 1) := by decide +kernel
theorem dX11_whyNot_32 : decode cX11_whyNot 32 = .ok (.ireturn, 1) := by decide +kernel
theorem dX11_whyNot_33 : decode cX11_whyNot 33 = .ok (.aload_n 3, 1) := by decide +kernel
theorem dX11_whyNot_34 : decode cX11_whyNot 34 = .ok (.getfield 219, 3) := by decide +kernel
theorem dX11_whyNot_37 : decode cX11_whyNot 37 = .ok (.getfield 399, 3) := by decide +kernel
theorem dX11_whyNot_40 : decode cX11_whyNot 40 = .ok (.ifCond .eq 5, 3) := by decide +kernel
theorem dX11_whyNot_43 : decode cX11_whyNot 43 = .ok (.iconst 2, 1) := by decide +kernel
theorem dX11_whyNot_44 : decode cX11_whyNot 44 = .ok (.ireturn, 1) := by decide +kernel
theorem dX11_whyNot_45 : decode cX11_whyNot 45 = .ok (.aload_n 3, 1) := by decide +kernel
theorem dX11_whyNot_46 : decode cX11_whyNot 46 = .ok (.getfield 219, 3) := by decide +kernel
theorem dX11_whyNot_49 : decode cX11_whyNot 49 = .ok (.getfield 402, 3) := by decide +kernel
theorem dX11_whyNot_52 : decode cX11_whyNot 52 = .ok (.ifCond .eq 5, 3) := by decide +kernel
theorem dX11_whyNot_55 : decode cX11_whyNot 55 = .ok (.iconst 3, 1) := by decide +kernel
theorem dX11_whyNot_56 : decode cX11_whyNot 56 = .ok (.ireturn, 1) := by decide +kernel
theorem dX11_whyNot_57 : decode cX11_whyNot 57 = .ok (.aload_n 3, 1) := by decide +kernel
theorem dX11_whyNot_58 : decode cX11_whyNot 58 = .ok (.getfield 219, 3) := by decide +kernel
theorem dX11_whyNot_61 : decode cX11_whyNot 61 = .ok (.invokevirtual 436, 3) := by decide +kernel
theorem dX11_whyNot_64 : decode cX11_whyNot 64 = .ok (.ifCond .eq 7, 3) := by decide +kernel
theorem dX11_whyNot_67 : decode cX11_whyNot 67 = .ok (.iconst 5, 1) := by decide +kernel
theorem dX11_whyNot_68 : decode cX11_whyNot 68 = .ok (.goto 4, 3) := by decide +kernel
theorem dX11_whyNot_71 : decode cX11_whyNot 71 = .ok (.iconst 4, 1) := by decide +kernel
theorem dX11_whyNot_72 : decode cX11_whyNot 72 = .ok (.ireturn, 1) := by decide +kernel
theorem dX11_awake_0 : decode cX11_awake 0 = .ok (.iload_n 1, 1) := by decide +kernel
theorem dX11_awake_1 : decode cX11_awake 1 = .ok (.iconst 1, 1) := by decide +kernel
theorem dX11_awake_2 : decode cX11_awake 2 = .ok (.sipush 1000, 3) := by decide +kernel
theorem dX11_awake_5 : decode cX11_awake 5 = .ok (.invokestatic 71, 3) := by decide +kernel
theorem dX11_awake_8 : decode cX11_awake 8 = .ok (.ifCond .eq 7, 3) := by decide +kernel
theorem dX11_awake_11 : decode cX11_awake 11 = .ok (.iload_n 2, 1) := by decide +kernel
theorem dX11_awake_12 : decode cX11_awake 12 = .ok (.ifCond .ge 5, 3) := by decide +kernel
theorem dX11_awake_15 : decode cX11_awake 15 = .ok (.iconst (-1), 1) := by decide +kernel
theorem dX11_awake_16 : decode cX11_awake 16 = .ok (.ireturn, 1) := by decide +kernel
theorem dX11_awake_17 : decode cX11_awake 17 = .ok (.aload_n 0, 1) := by decide +kernel
theorem dX11_awake_18 : decode cX11_awake 18 = .ok (.getfield 40, 3) := by decide +kernel
theorem dX11_awake_21 : decode cX11_awake 21 = .ok (.iload_n 1, 1) := by decide +kernel
theorem dX11_awake_22 : decode cX11_awake 22 = .ok (.aload_n 0, 1) := by decide +kernel
theorem dX11_awake_23 : decode cX11_awake 23 = .ok (.getfield 44, 3) := by decide +kernel
theorem dX11_awake_26 : decode cX11_awake 26 = .ok (.invokevirtual 378, 3) := by decide +kernel
theorem dX11_awake_29 : decode cX11_awake 29 = .ok (.istore_n 3, 1) := by decide +kernel
theorem dX11_awake_30 : decode cX11_awake 30 = .ok (.iload_n 2, 1) := by decide +kernel
theorem dX11_awake_31 : decode cX11_awake 31 = .ok (.iload_n 3, 1) := by decide +kernel
theorem dX11_awake_32 : decode cX11_awake 32 = .ok (.if_icmp .ge 21, 3) := by decide +kernel
theorem dX11_awake_35 : decode cX11_awake 35 = .ok (.iload_n 2, 1) := by decide +kernel
theorem dX11_awake_36 : decode cX11_awake 36 = .ok (.aload_n 0, 1) := by decide +kernel
theorem dX11_awake_37 : decode cX11_awake 37 = .ok (.getfield 44, 3) := by decide +kernel
theorem dX11_awake_40 : decode cX11_awake 40 = .ok (.arraylength, 1) := by decide +kernel
theorem dX11_awake_41 : decode cX11_awake 41 = .ok (.if_icmp .ge 12, 3) := by decide +kernel
theorem dX11_awake_44 : decode cX11_awake 44 = .ok (.aload_n 0, 1) := by decide +kernel
theorem dX11_awake_45 : decode cX11_awake 45 = .ok (.getfield 44, 3) := by decide +kernel
theorem dX11_awake_48 : decode cX11_awake 48 = .ok (.iload_n 2, 1) := by decide +kernel
theorem dX11_awake_49 : decode cX11_awake 49 = .ok (.iaload, 1) := by decide +kernel
theorem dX11_awake_50 : decode cX11_awake 50 = .ok (.goto 5, 3) := by decide +kernel
theorem dX11_awake_53 : decode cX11_awake 53 = .ok (.bipush (-2), 2) := by decide +kernel
theorem dX11_awake_55 : decode cX11_awake 55 = .ok (.ireturn, 1) := by decide +kernel
theorem dX11_answer_0 : decode cX11_answer 0 = .ok (.aload_n 0, 1) := by decide +kernel
theorem dX11_answer_1 : decode cX11_answer 1 = .ok (.iload_n 1, 1) := by decide +kernel
theorem dX11_answer_2 : decode cX11_answer 2 = .ok (.invokevirtual 410, 3) := by decide +kernel
theorem dX11_answer_5 : decode cX11_answer 5 = .ok (.astore_n 3, 1) := by decide +kernel
theorem dX11_answer_6 : decode cX11_answer 6 = .ok (.aload_n 3, 1) := by decide +kernel
theorem dX11_answer_7 : decode cX11_answer 7 = .ok (.ifnull 14, 3) := by decide +kernel
theorem dX11_answer_10 : decode cX11_answer 10 = .ok (.aload_n 0, 1) := by decide +kernel
theorem dX11_answer_11 : decode cX11_answer 11 = .ok (.getfield 40, 3) := by decide +kernel
theorem dX11_answer_14 : decode cX11_answer 14 = .ok (.iload_n 2, 1) := by decide +kernel
theorem dX11_answer_15 : decode cX11_answer 15 = .ok (.invokevirtual 125, 3) := by decide +kernel
theorem dX11_answer_18 : decode cX11_answer 18 = .ok (.ifCond .ne 5, 3) := by decide +kernel
theorem dX11_answer_21 : decode cX11_answer 21 = .ok (.iconst (-1), 1) := by decide +kernel
theorem dX11_answer_22 : decode cX11_answer 22 = .ok (.ireturn, 1) := by decide +kernel
theorem dX11_answer_23 : decode cX11_answer 23 = .ok (.aload_n 3, 1) := by decide +kernel
theorem dX11_answer_24 : decode cX11_answer 24 = .ok (.iload_n 2, 1) := by decide +kernel
theorem dX11_answer_25 : decode cX11_answer 25 = .ok (.invokevirtual 439, 3) := by decide +kernel
theorem dX11_answer_28 : decode cX11_answer 28 = .ok (.ifCond .ne 6, 3) := by decide +kernel
theorem dX11_answer_31 : decode cX11_answer 31 = .ok (.bipush (-2), 2) := by decide +kernel
theorem dX11_answer_33 : decode cX11_answer 33 = .ok (.ireturn, 1) := by decide +kernel
theorem dX11_answer_34 : decode cX11_answer 34 = .ok (.aload_n 3, 1) := by decide +kernel
theorem dX11_answer_35 : decode cX11_answer 35 = .ok (.invokevirtual 442, 3) := by decide +kernel
theorem dX11_answer_38 : decode cX11_answer 38 = .ok (.ifCond .eq 6, 3) := by decide +kernel
theorem dX11_answer_41 : decode cX11_answer 41 = .ok (.bipush (-3), 2) := by decide +kernel
theorem dX11_answer_43 : decode cX11_answer 43 = .ok (.ireturn, 1) := by decide +kernel
theorem dX11_answer_44 : decode cX11_answer 44 = .ok (.aload_n 3, 1) := by decide +kernel
theorem dX11_answer_45 : decode cX11_answer 45 = .ok (.iload_n 2, 1) := by decide +kernel
theorem dX11_answer_46 : decode cX11_answer 46 = .ok (.putfield 427, 3) := by decide +kernel
theorem dX11_answer_49 : decode cX11_answer 49 = .ok (.aload_n 3, 1) := by decide +kernel
theorem dX11_answer_50 : decode cX11_answer 50 = .ok (.aload_n 0, 1) := by decide +kernel
theorem dX11_answer_51 : decode cX11_answer 51 = .ok (.getfield 67, 3) := by decide +kernel
theorem dX11_answer_54 : decode cX11_answer 54 = .ok (.iconst 1, 1) := by decide +kernel
theorem dX11_answer_55 : decode cX11_answer 55 = .ok (.iadd, 1) := by decide +kernel
theorem dX11_answer_56 : decode cX11_answer 56 = .ok (.putfield 430, 3) := by decide +kernel
theorem dX11_answer_59 : decode cX11_answer 59 = .ok (.aload_n 3, 1) := by decide +kernel
theorem dX11_answer_60 : decode cX11_answer 60 = .ok (.getfield 445, 3) := by decide +kernel
theorem dX11_answer_63 : decode cX11_answer 63 = .ok (.aload_n 0, 1) := by decide +kernel
theorem dX11_answer_64 : decode cX11_answer 64 = .ok (.getfield 67, 3) := by decide +kernel
theorem dX11_answer_67 : decode cX11_answer 67 = .ok (.iconst 1, 1) := by decide +kernel
theorem dX11_answer_68 : decode cX11_answer 68 = .ok (.iadd, 1) := by decide +kernel
theorem dX11_answer_69 : decode cX11_answer 69 = .ok (.putfield 350, 3) := by decide +kernel
theorem dX11_answer_72 : decode cX11_answer 72 = .ok (.iconst 0, 1) := by decide +kernel
theorem dX11_answer_73 : decode cX11_answer 73 = .ok (.ireturn, 1) := by decide +kernel
theorem dX11_noise_0 : decode cX11_noise 0 = .ok (.aload_n 0, 1) := by decide +kernel
theorem dX11_noise_1 : decode cX11_noise 1 = .ok (.getfield 40, 3) := by decide +kernel
theorem dX11_noise_4 : decode cX11_noise 4 = .ok (.iload_n 1, 1) := by decide +kernel
theorem dX11_noise_5 : decode cX11_noise 5 = .ok (.invokevirtual 125, 3) := by decide +kernel
theorem dX11_noise_8 : decode cX11_noise 8 = .ok (.ifCond .ne 5, 3) := by decide +kernel
theorem dX11_noise_11 : decode cX11_noise 11 = .ok (.iconst (-1), 1) := by decide +kernel
theorem dX11_noise_12 : decode cX11_noise 12 = .ok (.ireturn, 1) := by decide +kernel
theorem dX11_noise_13 : decode cX11_noise 13 = .ok (.iconst 0, 1) := by decide +kernel
theorem dX11_noise_14 : decode cX11_noise 14 = .ok (.istore_n 2, 1) := by decide +kernel
theorem dX11_noise_15 : decode cX11_noise 15 = .ok (.iconst 0, 1) := by decide +kernel
theorem dX11_noise_16 : decode cX11_noise 16 = .ok (.istore_n 3, 1) := by decide +kernel
theorem dX11_noise_17 : decode cX11_noise 17 = .ok (.iload_n 3, 1) := by decide +kernel
theorem dX11_noise_18 : decode cX11_noise 18 = .ok (.aload_n 0, 1) := by decide +kernel
theorem dX11_noise_19 : decode cX11_noise 19 = .ok (.getfield 28, 3) := by decide +kernel
theorem dX11_noise_22 : decode cX11_noise 22 = .ok (.invokevirtual 75, 3) := by decide +kernel
theorem dX11_noise_25 : decode cX11_noise 25 = .ok (.if_icmp .ge 30, 3) := by decide +kernel
theorem dX11_noise_28 : decode cX11_noise 28 = .ok (.iload_n 2, 1) := by decide +kernel
theorem dX11_noise_29 : decode cX11_noise 29 = .ok (.aload_n 0, 1) := by decide +kernel
theorem dX11_noise_30 : decode cX11_noise 30 = .ok (.getfield 28, 3) := by decide +kernel
theorem dX11_noise_33 : decode cX11_noise 33 = .ok (.iload_n 3, 1) := by decide +kernel
theorem dX11_noise_34 : decode cX11_noise 34 = .ok (.invokevirtual 115, 3) := by decide +kernel
theorem dX11_noise_37 : decode cX11_noise 37 = .ok (.checkcast 313, 3) := by decide +kernel
theorem dX11_noise_40 : decode cX11_noise 40 = .ok (.iload_n 1, 1) := by decide +kernel
theorem dX11_noise_41 : decode cX11_noise 41 = .ok (.invokevirtual 439, 3) := by decide +kernel
theorem dX11_noise_44 : decode cX11_noise 44 = .ok (.invokestatic 165, 3) := by decide +kernel
theorem dX11_noise_47 : decode cX11_noise 47 = .ok (.iadd, 1) := by decide +kernel
theorem dX11_noise_48 : decode cX11_noise 48 = .ok (.istore_n 2, 1) := by decide +kernel
theorem dX11_noise_49 : decode cX11_noise 49 = .ok (.iinc 3 1, 3) := by decide +kernel
theorem dX11_noise_52 : decode cX11_noise 52 = .ok (.goto (-35), 3) := by decide +kernel
theorem dX11_noise_55 : decode cX11_noise 55 = .ok (.iload_n 2, 1) := by decide +kernel
theorem dX11_noise_56 : decode cX11_noise 56 = .ok (.ireturn, 1) := by decide +kernel
theorem dX11_flap_0 : decode cX11_flap 0 = .ok (.aload_n 0, 1) := by decide +kernel
theorem dX11_flap_1 : decode cX11_flap 1 = .ok (.iload_n 1, 1) := by decide +kernel
theorem dX11_flap_2 : decode cX11_flap 2 = .ok (.invokevirtual 104, 3) := by decide +kernel
theorem dX11_flap_5 : decode cX11_flap 5 = .ok (.ifnull 14, 3) := by decide +kernel
theorem dX11_flap_8 : decode cX11_flap 8 = .ok (.iload_n 2, 1) := by decide +kernel
theorem dX11_flap_9 : decode cX11_flap 9 = .ok (.iconst 1, 1) := by decide +kernel
theorem dX11_flap_10 : decode cX11_flap 10 = .ok (.sipush 2000, 3) := by decide +kernel
theorem dX11_flap_13 : decode cX11_flap 13 = .ok (.invokestatic 71, 3) := by decide +kernel
theorem dX11_flap_16 : decode cX11_flap 16 = .ok (.ifCond .ne 5, 3) := by decide +kernel
theorem dX11_flap_19 : decode cX11_flap 19 = .ok (.iconst (-1), 1) := by decide +kernel
theorem dX11_flap_20 : decode cX11_flap 20 = .ok (.ireturn, 1) := by decide +kernel
theorem dX11_flap_21 : decode cX11_flap 21 = .ok (.iconst 0, 1) := by decide +kernel
theorem dX11_flap_22 : decode cX11_flap 22 = .ok (.aload_n 0, 1) := by decide +kernel
theorem dX11_flap_23 : decode cX11_flap 23 = .ok (.getfield 67, 3) := by decide +kernel
theorem dX11_flap_26 : decode cX11_flap 26 = .ok (.iload_n 2, 1) := by decide +kernel
theorem dX11_flap_27 : decode cX11_flap 27 = .ok (.isub, 1) := by decide +kernel
theorem dX11_flap_28 : decode cX11_flap 28 = .ok (.invokestatic 446, 3) := by decide +kernel
theorem dX11_flap_31 : decode cX11_flap 31 = .ok (.istore_n 3, 1) := by decide +kernel
theorem dX11_flap_32 : decode cX11_flap 32 = .ok (.iconst 0, 1) := by decide +kernel
theorem dX11_flap_33 : decode cX11_flap 33 = .ok (.istore 4, 2) := by decide +kernel
theorem dX11_flap_35 : decode cX11_flap 35 = .ok (.iconst 0, 1) := by decide +kernel
theorem dX11_flap_36 : decode cX11_flap 36 = .ok (.istore 5, 2) := by decide +kernel
theorem dX11_flap_38 : decode cX11_flap 38 = .ok (.iload 5, 2) := by decide +kernel
theorem dX11_flap_40 : decode cX11_flap 40 = .ok (.aload_n 0, 1) := by decide +kernel
theorem dX11_flap_41 : decode cX11_flap 41 = .ok (.getfield 22, 3) := by decide +kernel
theorem dX11_flap_44 : decode cX11_flap 44 = .ok (.invokevirtual 75, 3) := by decide +kernel
theorem dX11_flap_47 : decode cX11_flap 47 = .ok (.if_icmp .ge 75, 3) := by decide +kernel
theorem dX11_flap_50 : decode cX11_flap 50 = .ok (.aload_n 0, 1) := by decide +kernel
theorem dX11_flap_51 : decode cX11_flap 51 = .ok (.getfield 22, 3) := by decide +kernel
theorem dX11_flap_54 : decode cX11_flap 54 = .ok (.iload 5, 2) := by decide +kernel
theorem dX11_flap_56 : decode cX11_flap 56 = .ok (.invokevirtual 115, 3) := by decide +kernel
theorem dX11_flap_59 : decode cX11_flap 59 = .ok (.checkcast 240, 3) := by decide +kernel
theorem dX11_flap_62 : decode cX11_flap 62 = .ok (.astore 6, 2) := by decide +kernel
theorem dX11_flap_64 : decode cX11_flap 64 = .ok (.aload 6, 2) := by decide +kernel
theorem dX11_flap_66 : decode cX11_flap 66 = .ok (.getfield 289, 3) := by decide +kernel
theorem dX11_flap_69 : decode cX11_flap 69 = .ok (.getfield 101, 3) := by decide +kernel
theorem dX11_flap_72 : decode cX11_flap 72 = .ok (.iload_n 1, 1) := by decide +kernel
theorem dX11_flap_73 : decode cX11_flap 73 = .ok (.if_icmp .ne 43, 3) := by decide +kernel
theorem dX11_flap_76 : decode cX11_flap 76 = .ok (.iload 4, 2) := by decide +kernel
theorem dX11_flap_78 : decode cX11_flap 78 = .ok (.aload 6, 2) := by decide +kernel
theorem dX11_flap_80 : decode cX11_flap 80 = .ok (.getfield 390, 3) := by decide +kernel
theorem dX11_flap_83 : decode cX11_flap 83 = .ok (.iload_n 3, 1) := by decide +kernel
theorem dX11_flap_84 : decode cX11_flap 84 = .ok (.if_icmp .le 7, 3) := by decide +kernel
theorem dX11_flap_87 : decode cX11_flap 87 = .ok (.iconst 1, 1) := by decide +kernel
theorem dX11_flap_88 : decode cX11_flap 88 = .ok (.goto 4, 3) := by decide +kernel
theorem dX11_flap_91 : decode cX11_flap 91 = .ok (.iconst 0, 1) := by decide +kernel
theorem dX11_flap_92 : decode cX11_flap 92 = .ok (.invokestatic 165, 3) := by decide +kernel
theorem dX11_flap_95 : decode cX11_flap 95 = .ok (.aload 6, 2) := by decide +kernel
theorem dX11_flap_97 : decode cX11_flap 97 = .ok (.getfield 393, 3) := by decide +kernel
theorem dX11_flap_100 : decode cX11_flap 100 = .ok (.iload_n 3, 1) := by decide +kernel
theorem dX11_flap_101 : decode cX11_flap 101 = .ok (.if_icmp .le 7, 3) := by decide +kernel
theorem dX11_flap_104 : decode cX11_flap 104 = .ok (.iconst 1, 1) := by decide +kernel
theorem dX11_flap_105 : decode cX11_flap 105 = .ok (.goto 4, 3) := by decide +kernel
theorem dX11_flap_108 : decode cX11_flap 108 = .ok (.iconst 0, 1) := by decide +kernel
theorem dX11_flap_109 : decode cX11_flap 109 = .ok (.invokestatic 165, 3) := by decide +kernel
theorem dX11_flap_112 : decode cX11_flap 112 = .ok (.iadd, 1) := by decide +kernel
theorem dX11_flap_113 : decode cX11_flap 113 = .ok (.iadd, 1) := by decide +kernel
theorem dX11_flap_114 : decode cX11_flap 114 = .ok (.istore 4, 2) := by decide +kernel
theorem dX11_flap_116 : decode cX11_flap 116 = .ok (.iinc 5 1, 3) := by decide +kernel
theorem dX11_flap_119 : decode cX11_flap 119 = .ok (.goto (-81), 3) := by decide +kernel
theorem dX11_flap_122 : decode cX11_flap 122 = .ok (.iload 4, 2) := by decide +kernel
theorem dX11_flap_124 : decode cX11_flap 124 = .ok (.ireturn, 1) := by decide +kernel
theorem dX11_least_0 : decode cX11_least 0 = .ok (.aload_n 0, 1) := by decide +kernel
theorem dX11_least_1 : decode cX11_least 1 = .ok (.iload_n 1, 1) := by decide +kernel
theorem dX11_least_2 : decode cX11_least 2 = .ok (.invokevirtual 104, 3) := by decide +kernel
theorem dX11_least_5 : decode cX11_least 5 = .ok (.astore_n 3, 1) := by decide +kernel
theorem dX11_least_6 : decode cX11_least 6 = .ok (.aload_n 3, 1) := by decide +kernel
theorem dX11_least_7 : decode cX11_least 7 = .ok (.ifnull 13, 3) := by decide +kernel
theorem dX11_least_10 : decode cX11_least 10 = .ok (.iload_n 2, 1) := by decide +kernel
theorem dX11_least_11 : decode cX11_least 11 = .ok (.iconst 1, 1) := by decide +kernel
theorem dX11_least_12 : decode cX11_least 12 = .ok (.bipush 10, 2) := by decide +kernel
theorem dX11_least_14 : decode cX11_least 14 = .ok (.invokestatic 71, 3) := by decide +kernel
theorem dX11_least_17 : decode cX11_least 17 = .ok (.ifCond .ne 5, 3) := by decide +kernel
theorem dX11_least_20 : decode cX11_least 20 = .ok (.iconst (-1), 1) := by decide +kernel
theorem dX11_least_21 : decode cX11_least 21 = .ok (.ireturn, 1) := by decide +kernel
theorem dX11_least_22 : decode cX11_least 22 = .ok (.aload_n 3, 1) := by decide +kernel
theorem dX11_least_23 : decode cX11_least 23 = .ok (.iload_n 2, 1) := by decide +kernel
theorem dX11_least_24 : decode cX11_least 24 = .ok (.invokevirtual 452, 3) := by decide +kernel
theorem dX11_least_27 : decode cX11_least 27 = .ok (.ireturn, 1) := by decide +kernel
theorem dX11_count_0 : decode cX11_count 0 = .ok (.iload_n 1, 1) := by decide +kernel
theorem dX11_count_1 : decode cX11_count 1 = .ok (.tableswitch 114 0 8 #[51, 59, 67, 75, 80, 88, 93, 101, 106], 51) := by decide +kernel
theorem dX11_count_52 : decode cX11_count 52 = .ok (.aload_n 0, 1) := by decide +kernel
theorem dX11_count_53 : decode cX11_count 53 = .ok (.getfield 10, 3) := by decide +kernel
theorem dX11_count_56 : decode cX11_count 56 = .ok (.invokevirtual 75, 3) := by decide +kernel
theorem dX11_count_59 : decode cX11_count 59 = .ok (.ireturn, 1) := by decide +kernel
theorem dX11_count_60 : decode cX11_count 60 = .ok (.aload_n 0, 1) := by decide +kernel
theorem dX11_count_61 : decode cX11_count 61 = .ok (.getfield 16, 3) := by decide +kernel
theorem dX11_count_64 : decode cX11_count 64 = .ok (.invokevirtual 75, 3) := by decide +kernel
theorem dX11_count_67 : decode cX11_count 67 = .ok (.ireturn, 1) := by decide +kernel
theorem dX11_count_68 : decode cX11_count 68 = .ok (.aload_n 0, 1) := by decide +kernel
theorem dX11_count_69 : decode cX11_count 69 = .ok (.getfield 40, 3) := by decide +kernel
theorem dX11_count_72 : decode cX11_count 72 = .ok (.getfield 455, 3) := by decide +kernel
theorem dX11_count_75 : decode cX11_count 75 = .ok (.ireturn, 1) := by decide +kernel
theorem dX11_count_76 : decode cX11_count 76 = .ok (.aload_n 0, 1) := by decide +kernel
theorem dX11_count_77 : decode cX11_count 77 = .ok (.getfield 67, 3) := by decide +kernel
theorem dX11_count_80 : decode cX11_count 80 = .ok (.ireturn, 1) := by decide +kernel
theorem dX11_count_81 : decode cX11_count 81 = .ok (.aload_n 0, 1) := by decide +kernel
theorem dX11_count_82 : decode cX11_count 82 = .ok (.getfield 22, 3) := by decide +kernel
theorem dX11_count_85 : decode cX11_count 85 = .ok (.invokevirtual 75, 3) := by decide +kernel
theorem dX11_count_88 : decode cX11_count 88 = .ok (.ireturn, 1) := by decide +kernel
theorem dX11_count_89 : decode cX11_count 89 = .ok (.aload_n 0, 1) := by decide +kernel
theorem dX11_count_90 : decode cX11_count 90 = .ok (.invokevirtual 458, 3) := by decide +kernel
theorem dX11_count_93 : decode cX11_count 93 = .ok (.ireturn, 1) := by decide +kernel
theorem dX11_count_94 : decode cX11_count 94 = .ok (.aload_n 0, 1) := by decide +kernel
theorem dX11_count_95 : decode cX11_count 95 = .ok (.getfield 28, 3) := by decide +kernel
theorem dX11_count_98 : decode cX11_count 98 = .ok (.invokevirtual 75, 3) := by decide +kernel
theorem dX11_count_101 : decode cX11_count 101 = .ok (.ireturn, 1) := by decide +kernel
theorem dX11_count_102 : decode cX11_count 102 = .ok (.aload_n 0, 1) := by decide +kernel
theorem dX11_count_103 : decode cX11_count 103 = .ok (.invokevirtual 461, 3) := by decide +kernel
theorem dX11_count_106 : decode cX11_count 106 = .ok (.ireturn, 1) := by decide +kernel
theorem dX11_count_107 : decode cX11_count 107 = .ok (.aload_n 0, 1) := by decide +kernel
theorem dX11_count_108 : decode cX11_count 108 = .ok (.getfield 25, 3) := by decide +kernel
theorem dX11_count_111 : decode cX11_count 111 = .ok (.invokevirtual 75, 3) := by decide +kernel
theorem dX11_count_114 : decode cX11_count 114 = .ok (.ireturn, 1) := by decide +kernel
theorem dX11_count_115 : decode cX11_count 115 = .ok (.iconst (-1), 1) := by decide +kernel
theorem dX11_count_116 : decode cX11_count 116 = .ok (.ireturn, 1) := by decide +kernel
theorem dX11_lastingCount_0 : decode cX11_lastingCount 0 = .ok (.iconst 0, 1) := by decide +kernel
theorem dX11_lastingCount_1 : decode cX11_lastingCount 1 = .ok (.istore_n 1, 1) := by decide +kernel
theorem dX11_lastingCount_2 : decode cX11_lastingCount 2 = .ok (.iconst 0, 1) := by decide +kernel
theorem dX11_lastingCount_3 : decode cX11_lastingCount 3 = .ok (.istore_n 2, 1) := by decide +kernel
theorem dX11_lastingCount_4 : decode cX11_lastingCount 4 = .ok (.iload_n 2, 1) := by decide +kernel
theorem dX11_lastingCount_5 : decode cX11_lastingCount 5 = .ok (.aload_n 0, 1) := by decide +kernel
theorem dX11_lastingCount_6 : decode cX11_lastingCount 6 = .ok (.getfield 22, 3) := by decide +kernel
theorem dX11_lastingCount_9 : decode cX11_lastingCount 9 = .ok (.invokevirtual 75, 3) := by decide +kernel
theorem dX11_lastingCount_12 : decode cX11_lastingCount 12 = .ok (.if_icmp .ge 29, 3) := by decide +kernel
theorem dX11_lastingCount_15 : decode cX11_lastingCount 15 = .ok (.iload_n 1, 1) := by decide +kernel
theorem dX11_lastingCount_16 : decode cX11_lastingCount 16 = .ok (.aload_n 0, 1) := by decide +kernel
theorem dX11_lastingCount_17 : decode cX11_lastingCount 17 = .ok (.getfield 22, 3) := by decide +kernel
theorem dX11_lastingCount_20 : decode cX11_lastingCount 20 = .ok (.iload_n 2, 1) := by decide +kernel
theorem dX11_lastingCount_21 : decode cX11_lastingCount 21 = .ok (.invokevirtual 115, 3) := by decide +kernel
theorem dX11_lastingCount_24 : decode cX11_lastingCount 24 = .ok (.checkcast 240, 3) := by decide +kernel
theorem dX11_lastingCount_27 : decode cX11_lastingCount 27 = .ok (.invokevirtual 273, 3) := by decide +kernel
theorem dX11_lastingCount_30 : decode cX11_lastingCount 30 = .ok (.invokestatic 165, 3) := by decide +kernel
theorem dX11_lastingCount_33 : decode cX11_lastingCount 33 = .ok (.iadd, 1) := by decide +kernel
theorem dX11_lastingCount_34 : decode cX11_lastingCount 34 = .ok (.istore_n 1, 1) := by decide +kernel
theorem dX11_lastingCount_35 : decode cX11_lastingCount 35 = .ok (.iinc 2 1, 3) := by decide +kernel
theorem dX11_lastingCount_38 : decode cX11_lastingCount 38 = .ok (.goto (-34), 3) := by decide +kernel
theorem dX11_lastingCount_41 : decode cX11_lastingCount 41 = .ok (.iload_n 1, 1) := by decide +kernel
theorem dX11_lastingCount_42 : decode cX11_lastingCount 42 = .ok (.ireturn, 1) := by decide +kernel
theorem dX11_unansweredCount_0 : decode cX11_unansweredCount 0 = .ok (.iconst 0, 1) := by decide +kernel
theorem dX11_unansweredCount_1 : decode cX11_unansweredCount 1 = .ok (.istore_n 1, 1) := by decide +kernel
theorem dX11_unansweredCount_2 : decode cX11_unansweredCount 2 = .ok (.iconst 0, 1) := by decide +kernel
theorem dX11_unansweredCount_3 : decode cX11_unansweredCount 3 = .ok (.istore_n 2, 1) := by decide +kernel
theorem dX11_unansweredCount_4 : decode cX11_unansweredCount 4 = .ok (.iload_n 2, 1) := by decide +kernel
theorem dX11_unansweredCount_5 : decode cX11_unansweredCount 5 = .ok (.aload_n 0, 1) := by decide +kernel
theorem dX11_unansweredCount_6 : decode cX11_unansweredCount 6 = .ok (.getfield 28, 3) := by decide +kernel
theorem dX11_unansweredCount_9 : decode cX11_unansweredCount 9 = .ok (.invokevirtual 75, 3) := by decide +kernel
theorem dX11_unansweredCount_12 : decode cX11_unansweredCount 12 = .ok (.if_icmp .ge 37, 3) := by decide +kernel
theorem dX11_unansweredCount_15 : decode cX11_unansweredCount 15 = .ok (.iload_n 1, 1) := by decide +kernel
theorem dX11_unansweredCount_16 : decode cX11_unansweredCount 16 = .ok (.aload_n 0, 1) := by decide +kernel
theorem dX11_unansweredCount_17 : decode cX11_unansweredCount 17 = .ok (.getfield 28, 3) := by decide +kernel
theorem dX11_unansweredCount_20 : decode cX11_unansweredCount 20 = .ok (.iload_n 2, 1) := by decide +kernel
theorem dX11_unansweredCount_21 : decode cX11_unansweredCount 21 = .ok (.invokevirtual 115, 3) := by decide +kernel
theorem dX11_unansweredCount_24 : decode cX11_unansweredCount 24 = .ok (.checkcast 313, 3) := by decide +kernel
theorem dX11_unansweredCount_27 : decode cX11_unansweredCount 27 = .ok (.invokevirtual 442, 3) := by decide +kernel
theorem dX11_unansweredCount_30 : decode cX11_unansweredCount 30 = .ok (.ifCond .ne 7, 3) := by decide +kernel
theorem dX11_unansweredCount_33 : decode cX11_unansweredCount 33 = .ok (.iconst 1, 1) := by decide +kernel
theorem dX11_unansweredCount_34 : decode cX11_unansweredCount 34 = .ok (.goto 4, 3) := by decide +kernel
theorem dX11_unansweredCount_37 : decode cX11_unansweredCount 37 = .ok (.iconst 0, 1) := by decide +kernel
theorem dX11_unansweredCount_38 : decode cX11_unansweredCount 38 = .ok (.invokestatic 165, 3) := by decide +kernel
theorem dX11_unansweredCount_41 : decode cX11_unansweredCount 41 = .ok (.iadd, 1) := by decide +kernel
theorem dX11_unansweredCount_42 : decode cX11_unansweredCount 42 = .ok (.istore_n 1, 1) := by decide +kernel
theorem dX11_unansweredCount_43 : decode cX11_unansweredCount 43 = .ok (.iinc 2 1, 3) := by decide +kernel
theorem dX11_unansweredCount_46 : decode cX11_unansweredCount 46 = .ok (.goto (-42), 3) := by decide +kernel
theorem dX11_unansweredCount_49 : decode cX11_unansweredCount 49 = .ok (.iload_n 1, 1) := by decide +kernel
theorem dX11_unansweredCount_50 : decode cX11_unansweredCount 50 = .ok (.ireturn, 1) := by decide +kernel
theorem dX11_keep_0 : decode cX11_keep 0 = .ok (.aload_n 0, 1) := by decide +kernel
theorem dX11_keep_1 : decode cX11_keep 1 = .ok (.iload_n 1, 1) := by decide +kernel
theorem dX11_keep_2 : decode cX11_keep 2 = .ok (.invokevirtual 464, 3) := by decide +kernel
theorem dX11_keep_5 : decode cX11_keep 5 = .ok (.astore 4, 2) := by decide +kernel
theorem dX11_keep_7 : decode cX11_keep 7 = .ok (.aload 4, 2) := by decide +kernel
theorem dX11_keep_9 : decode cX11_keep 9 = .ok (.ifnonnull 5, 3) := by decide +kernel
theorem dX11_keep_12 : decode cX11_keep 12 = .ok (.iconst (-1), 1) := by decide +kernel
theorem dX11_keep_13 : decode cX11_keep 13 = .ok (.ireturn, 1) := by decide +kernel
theorem dX11_keep_14 : decode cX11_keep 14 = .ok (.iload_n 2, 1) := by decide +kernel
theorem dX11_keep_15 : decode cX11_keep 15 = .ok (.tableswitch 65 0 4 #[33, 41, 33, 52, 52], 33) := by decide +kernel
theorem dX11_keep_48 : decode cX11_keep 48 = .ok (.aload 4, 2) := by decide +kernel
theorem dX11_keep_50 : decode cX11_keep 50 = .ok (.iload_n 2, 1) := by decide +kernel
theorem dX11_keep_51 : decode cX11_keep 51 = .ok (.invokevirtual 468, 3) := by decide +kernel
theorem dX11_keep_54 : decode cX11_keep 54 = .ok (.iconst 0, 1) := by decide +kernel
theorem dX11_keep_55 : decode cX11_keep 55 = .ok (.ireturn, 1) := by decide +kernel
theorem dX11_keep_56 : decode cX11_keep 56 = .ok (.aload 4, 2) := by decide +kernel
theorem dX11_keep_58 : decode cX11_keep 58 = .ok (.aload_n 0, 1) := by decide +kernel
theorem dX11_keep_59 : decode cX11_keep 59 = .ok (.iload_n 3, 1) := by decide +kernel
theorem dX11_keep_60 : decode cX11_keep 60 = .ok (.invokevirtual 386, 3) := by decide +kernel
theorem dX11_keep_63 : decode cX11_keep 63 = .ok (.invokestatic 471, 3) := by decide +kernel
theorem dX11_keep_66 : decode cX11_keep 66 = .ok (.ireturn, 1) := by decide +kernel
theorem dX11_keep_67 : decode cX11_keep 67 = .ok (.aload_n 0, 1) := by decide +kernel
theorem dX11_keep_68 : decode cX11_keep 68 = .ok (.aload 4, 2) := by decide +kernel
theorem dX11_keep_70 : decode cX11_keep 70 = .ok (.iload_n 2, 1) := by decide +kernel
theorem dX11_keep_71 : decode cX11_keep 71 = .ok (.aload_n 0, 1) := by decide +kernel
theorem dX11_keep_72 : decode cX11_keep 72 = .ok (.iload_n 3, 1) := by decide +kernel
theorem dX11_keep_73 : decode cX11_keep 73 = .ok (.invokevirtual 150, 3) := by decide +kernel
theorem dX11_keep_76 : decode cX11_keep 76 = .ok (.invokevirtual 475, 3) := by decide +kernel
theorem dX11_keep_79 : decode cX11_keep 79 = .ok (.ireturn, 1) := by decide +kernel
theorem dX11_keep_80 : decode cX11_keep 80 = .ok (.iconst (-1), 1) := by decide +kernel
theorem dX11_keep_81 : decode cX11_keep 81 = .ok (.ireturn, 1) := by decide +kernel
theorem dX11_keepAlarm_0 : decode cX11_keepAlarm 0 = .ok (.aload_n 1, 1) := by decide +kernel
theorem dX11_keepAlarm_1 : decode cX11_keepAlarm 1 = .ok (.ifnonnull 5, 3) := by decide +kernel
theorem dX11_keepAlarm_4 : decode cX11_keepAlarm 4 = .ok (.iconst (-1), 1) := by decide +kernel
theorem dX11_keepAlarm_5 : decode cX11_keepAlarm 5 = .ok (.ireturn, 1) := by decide +kernel
theorem dX11_keepAlarm_6 : decode cX11_keepAlarm 6 = .ok (.aload_n 0, 1) := by decide +kernel
theorem dX11_keepAlarm_7 : decode cX11_keepAlarm 7 = .ok (.aload_n 1, 1) := by decide +kernel
theorem dX11_keepAlarm_8 : decode cX11_keepAlarm 8 = .ok (.invokevirtual 479, 3) := by decide +kernel
theorem dX11_keepAlarm_11 : decode cX11_keepAlarm 11 = .ok (.iconst 0, 1) := by decide +kernel
theorem dX11_keepAlarm_12 : decode cX11_keepAlarm 12 = .ok (.ireturn, 1) := by decide +kernel
theorem dX11_keepRow_0 : decode cX11_keepRow 0 = .ok (.aload_n 3, 1) := by decide +kernel
theorem dX11_keepRow_1 : decode cX11_keepRow 1 = .ok (.ifnonnull 5, 3) := by decide +kernel
theorem dX11_keepRow_4 : decode cX11_keepRow 4 = .ok (.iconst (-1), 1) := by decide +kernel
theorem dX11_keepRow_5 : decode cX11_keepRow 5 = .ok (.ireturn, 1) := by decide +kernel
theorem dX11_keepRow_6 : decode cX11_keepRow 6 = .ok (.aload_n 0, 1) := by decide +kernel
theorem dX11_keepRow_7 : decode cX11_keepRow 7 = .ok (.getfield 67, 3) := by decide +kernel
theorem dX11_keepRow_10 : decode cX11_keepRow 10 = .ok (.bipush 60, 2) := by decide +kernel
theorem dX11_keepRow_12 : decode cX11_keepRow 12 = .ok (.invokestatic 481, 3) := by decide +kernel
theorem dX11_keepRow_15 : decode cX11_keepRow 15 = .ok (.istore 4, 2) := by decide +kernel
theorem dX11_keepRow_17 : decode cX11_keepRow 17 = .ok (.aload_n 1, 1) := by decide +kernel
theorem dX11_keepRow_18 : decode cX11_keepRow 18 = .ok (.iload_n 2, 1) := by decide +kernel
theorem dX11_keepRow_19 : decode cX11_keepRow 19 = .ok (.iload 4, 2) := by decide +kernel
theorem dX11_keepRow_21 : decode cX11_keepRow 21 = .ok (.invokevirtual 484, 3) := by decide +kernel
theorem dX11_keepRow_24 : decode cX11_keepRow 24 = .ok (.iconst 0, 1) := by decide +kernel
theorem dX11_keepRow_25 : decode cX11_keepRow 25 = .ok (.istore 5, 2) := by decide +kernel
theorem dX11_keepRow_27 : decode cX11_keepRow 27 = .ok (.iload 5, 2) := by decide +kernel
theorem dX11_keepRow_29 : decode cX11_keepRow 29 = .ok (.iload 4, 2) := by decide +kernel
theorem dX11_keepRow_31 : decode cX11_keepRow 31 = .ok (.if_icmp .ge 53, 3) := by decide +kernel
theorem dX11_keepRow_34 : decode cX11_keepRow 34 = .ok (.aload_n 0, 1) := by decide +kernel
theorem dX11_keepRow_35 : decode cX11_keepRow 35 = .ok (.getfield 67, 3) := by decide +kernel
theorem dX11_keepRow_38 : decode cX11_keepRow 38 = .ok (.iload 4, 2) := by decide +kernel
theorem dX11_keepRow_40 : decode cX11_keepRow 40 = .ok (.isub, 1) := by decide +kernel
theorem dX11_keepRow_41 : decode cX11_keepRow 41 = .ok (.iconst 1, 1) := by decide +kernel
theorem dX11_keepRow_42 : decode cX11_keepRow 42 = .ok (.iadd, 1) := by decide +kernel
theorem dX11_keepRow_43 : decode cX11_keepRow 43 = .ok (.iload 5, 2) := by decide +kernel
theorem dX11_keepRow_45 : decode cX11_keepRow 45 = .ok (.iadd, 1) := by decide +kernel
theorem dX11_keepRow_46 : decode cX11_keepRow 46 = .ok (.istore 6, 2) := by decide +kernel
theorem dX11_keepRow_48 : decode cX11_keepRow 48 = .ok (.aload_n 1, 1) := by decide +kernel
theorem dX11_keepRow_49 : decode cX11_keepRow 49 = .ok (.iload 5, 2) := by decide +kernel
theorem dX11_keepRow_51 : decode cX11_keepRow 51 = .ok (.iload_n 2, 1) := by decide +kernel
theorem dX11_keepRow_52 : decode cX11_keepRow 52 = .ok (.iconst 3, 1) := by decide +kernel
theorem dX11_keepRow_53 : decode cX11_keepRow 53 = .ok (.if_icmp .ne 12, 3) := by decide +kernel
theorem dX11_keepRow_56 : decode cX11_keepRow 56 = .ok (.aload_n 3, 1) := by decide +kernel
theorem dX11_keepRow_57 : decode cX11_keepRow 57 = .ok (.iload 6, 2) := by decide +kernel
theorem dX11_keepRow_59 : decode cX11_keepRow 59 = .ok (.invokevirtual 486, 3) := by decide +kernel
theorem dX11_keepRow_62 : decode cX11_keepRow 62 = .ok (.goto 13, 3) := by decide +kernel
theorem dX11_keepRow_65 : decode cX11_keepRow 65 = .ok (.aload_n 3, 1) := by decide +kernel
theorem dX11_keepRow_66 : decode cX11_keepRow 66 = .ok (.iload 6, 2) := by decide +kernel
theorem dX11_keepRow_68 : decode cX11_keepRow 68 = .ok (.invokevirtual 158, 3) := by decide +kernel
theorem dX11_keepRow_71 : decode cX11_keepRow 71 = .ok (.invokestatic 165, 3) := by decide +kernel
theorem dX11_keepRow_74 : decode cX11_keepRow 74 = .ok (.i2l, 1) := by decide +kernel
theorem dX11_keepRow_75 : decode cX11_keepRow 75 = .ok (.invokevirtual 490, 3) := by decide +kernel
theorem dX11_keepRow_78 : decode cX11_keepRow 78 = .ok (.iinc 5 1, 3) := by decide +kernel
theorem dX11_keepRow_81 : decode cX11_keepRow 81 = .ok (.goto (-54), 3) := by decide +kernel
theorem dX11_keepRow_84 : decode cX11_keepRow 84 = .ok (.iconst 0, 1) := by decide +kernel
theorem dX11_keepRow_85 : decode cX11_keepRow 85 = .ok (.ireturn, 1) := by decide +kernel
theorem dX11_make_0 : decode cX11_make 0 = .ok (.aload_n 0, 1) := by decide +kernel
theorem dX11_make_1 : decode cX11_make 1 = .ok (.iload_n 1, 1) := by decide +kernel
theorem dX11_make_2 : decode cX11_make 2 = .ok (.invokevirtual 464, 3) := by decide +kernel
theorem dX11_make_5 : decode cX11_make 5 = .ok (.astore 4, 2) := by decide +kernel
theorem dX11_make_7 : decode cX11_make 7 = .ok (.aload 4, 2) := by decide +kernel
theorem dX11_make_9 : decode cX11_make 9 = .ok (.ifnull 18, 3) := by decide +kernel
theorem dX11_make_12 : decode cX11_make 12 = .ok (.iload_n 2, 1) := by decide +kernel
theorem dX11_make_13 : decode cX11_make 13 = .ok (.iconst 3, 1) := by decide +kernel
theorem dX11_make_14 : decode cX11_make 14 = .ok (.iconst 4, 1) := by decide +kernel
theorem dX11_make_15 : decode cX11_make 15 = .ok (.invokestatic 71, 3) := by decide +kernel
theorem dX11_make_18 : decode cX11_make 18 = .ok (.ifCond .eq 9, 3) := by decide +kernel
theorem dX11_make_21 : decode cX11_make 21 = .ok (.iload_n 3, 1) := by decide +kernel
theorem dX11_make_22 : decode cX11_make 22 = .ok (.bipush 60, 2) := by decide +kernel
theorem dX11_make_24 : decode cX11_make 24 = .ok (.if_icmp .le 5, 3) := by decide +kernel
theorem dX11_make_27 : decode cX11_make 27 = .ok (.iconst (-1), 1) := by decide +kernel
theorem dX11_make_28 : decode cX11_make 28 = .ok (.ireturn, 1) := by decide +kernel
theorem dX11_make_29 : decode cX11_make 29 = .ok (.iload_n 3, 1) := by decide +kernel
theorem dX11_make_30 : decode cX11_make 30 = .ok (.ifCond .ge 6, 3) := by decide +kernel
theorem dX11_make_33 : decode cX11_make 33 = .ok (.bipush (-14), 2) := by decide +kernel
theorem dX11_make_35 : decode cX11_make 35 = .ok (.ireturn, 1) := by decide +kernel
theorem dX11_make_36 : decode cX11_make 36 = .ok (.aload 4, 2) := by decide +kernel
theorem dX11_make_38 : decode cX11_make 38 = .ok (.iload_n 2, 1) := by decide +kernel
theorem dX11_make_39 : decode cX11_make 39 = .ok (.iload_n 3, 1) := by decide +kernel
theorem dX11_make_40 : decode cX11_make 40 = .ok (.invokevirtual 484, 3) := by decide +kernel
theorem dX11_make_43 : decode cX11_make 43 = .ok (.iconst 0, 1) := by decide +kernel
theorem dX11_make_44 : decode cX11_make 44 = .ok (.ireturn, 1) := by decide +kernel
theorem dX11_element_0 : decode cX11_element 0 = .ok (.aload_n 0, 1) := by decide +kernel
theorem dX11_element_1 : decode cX11_element 1 = .ok (.iload_n 1, 1) := by decide +kernel
theorem dX11_element_2 : decode cX11_element 2 = .ok (.invokevirtual 464, 3) := by decide +kernel
theorem dX11_element_5 : decode cX11_element 5 = .ok (.astore_n 3, 1) := by decide +kernel
theorem dX11_element_6 : decode cX11_element 6 = .ok (.aload_n 3, 1) := by decide +kernel
theorem dX11_element_7 : decode cX11_element 7 = .ok (.ifnonnull 14, 3) := by decide +kernel
theorem dX11_element_10 : decode cX11_element 10 = .ok (.new 491, 3) := by decide +kernel
theorem dX11_element_13 : decode cX11_element 13 = .ok (.dup, 1) := by decide +kernel
theorem dX11_element_14 : decode cX11_element 14 = .ok (.ldc_w 493, 3) := by decide +kernel
theorem dX11_element_17 : decode cX11_element 17 = .ok (.invokespecial 495, 3) := by decide +kernel
theorem dX11_element_20 : decode cX11_element 20 = .ok (.athrow, 1) := by decide +kernel
theorem dX11_element_21 : decode cX11_element 21 = .ok (.aload_n 3, 1) := by decide +kernel
theorem dX11_element_22 : decode cX11_element 22 = .ok (.invokevirtual 498, 3) := by decide +kernel
theorem dX11_element_25 : decode cX11_element 25 = .ok (.ifCond .eq 17, 3) := by decide +kernel
theorem dX11_element_28 : decode cX11_element 28 = .ok (.iload_n 2, 1) := by decide +kernel
theorem dX11_element_29 : decode cX11_element 29 = .ok (.iconst 0, 1) := by decide +kernel
theorem dX11_element_30 : decode cX11_element 30 = .ok (.aload_n 3, 1) := by decide +kernel
theorem dX11_element_31 : decode cX11_element 31 = .ok (.getfield 501, 3) := by decide +kernel
theorem dX11_element_34 : decode cX11_element 34 = .ok (.iconst 1, 1) := by decide +kernel
theorem dX11_element_35 : decode cX11_element 35 = .ok (.isub, 1) := by decide +kernel
theorem dX11_element_36 : decode cX11_element 36 = .ok (.invokestatic 71, 3) := by decide +kernel
theorem dX11_element_39 : decode cX11_element 39 = .ok (.ifCond .ne 14, 3) := by decide +kernel
theorem dX11_element_42 : decode cX11_element 42 = .ok (.new 502, 3) := by decide +kernel
theorem dX11_element_45 : decode cX11_element 45 = .ok (.dup, 1) := by decide +kernel
theorem dX11_element_46 : decode cX11_element 46 = .ok (.ldc_w 504, 3) := by decide +kernel
theorem dX11_element_49 : decode cX11_element 49 = .ok (.invokespecial 506, 3) := by decide +kernel
theorem dX11_element_52 : decode cX11_element 52 = .ok (.athrow, 1) := by decide +kernel
theorem dX11_element_53 : decode cX11_element 53 = .ok (.aload_n 3, 1) := by decide +kernel
theorem dX11_element_54 : decode cX11_element 54 = .ok (.iload_n 2, 1) := by decide +kernel
theorem dX11_element_55 : decode cX11_element 55 = .ok (.invokevirtual 507, 3) := by decide +kernel
theorem dX11_element_58 : decode cX11_element 58 = .ok (.lreturn, 1) := by decide +kernel
theorem dX11_copy_0 : decode cX11_copy 0 = .ok (.aload_n 0, 1) := by decide +kernel
theorem dX11_copy_1 : decode cX11_copy 1 = .ok (.iload_n 1, 1) := by decide +kernel
theorem dX11_copy_2 : decode cX11_copy 2 = .ok (.invokevirtual 464, 3) := by decide +kernel
theorem dX11_copy_5 : decode cX11_copy 5 = .ok (.astore 6, 2) := by decide +kernel
theorem dX11_copy_7 : decode cX11_copy 7 = .ok (.aload_n 0, 1) := by decide +kernel
theorem dX11_copy_8 : decode cX11_copy 8 = .ok (.iload_n 3, 1) := by decide +kernel
theorem dX11_copy_9 : decode cX11_copy 9 = .ok (.invokevirtual 464, 3) := by decide +kernel
theorem dX11_copy_12 : decode cX11_copy 12 = .ok (.astore 7, 2) := by decide +kernel
theorem dX11_copy_14 : decode cX11_copy 14 = .ok (.aload 6, 2) := by decide +kernel
theorem dX11_copy_16 : decode cX11_copy 16 = .ok (.ifnull 8, 3) := by decide +kernel
theorem dX11_copy_19 : decode cX11_copy 19 = .ok (.aload 7, 2) := by decide +kernel
theorem dX11_copy_21 : decode cX11_copy 21 = .ok (.ifnonnull 5, 3) := by decide +kernel
theorem dX11_copy_24 : decode cX11_copy 24 = .ok (.iconst (-1), 1) := by decide +kernel
theorem dX11_copy_25 : decode cX11_copy 25 = .ok (.ireturn, 1) := by decide +kernel
theorem dX11_copy_26 : decode cX11_copy 26 = .ok (.aload 6, 2) := by decide +kernel
theorem dX11_copy_28 : decode cX11_copy 28 = .ok (.getfield 509, 3) := by decide +kernel
theorem dX11_copy_31 : decode cX11_copy 31 = .ok (.ifCond .eq 11, 3) := by decide +kernel
theorem dX11_copy_34 : decode cX11_copy 34 = .ok (.aload 7, 2) := by decide +kernel
theorem dX11_copy_36 : decode cX11_copy 36 = .ok (.getfield 509, 3) := by decide +kernel
theorem dX11_copy_39 : decode cX11_copy 39 = .ok (.ifCond .ne 6, 3) := by decide +kernel
theorem dX11_copy_42 : decode cX11_copy 42 = .ok (.bipush (-11), 2) := by decide +kernel
theorem dX11_copy_44 : decode cX11_copy 44 = .ok (.ireturn, 1) := by decide +kernel
theorem dX11_copy_45 : decode cX11_copy 45 = .ok (.aload 6, 2) := by decide +kernel
theorem dX11_copy_47 : decode cX11_copy 47 = .ok (.invokevirtual 498, 3) := by decide +kernel
theorem dX11_copy_50 : decode cX11_copy 50 = .ok (.ifCond .eq 16, 3) := by decide +kernel
theorem dX11_copy_53 : decode cX11_copy 53 = .ok (.aload 6, 2) := by decide +kernel
theorem dX11_copy_55 : decode cX11_copy 55 = .ok (.getfield 509, 3) := by decide +kernel
theorem dX11_copy_58 : decode cX11_copy 58 = .ok (.aload 7, 2) := by decide +kernel
theorem dX11_copy_60 : decode cX11_copy 60 = .ok (.getfield 509, 3) := by decide +kernel
theorem dX11_copy_63 : decode cX11_copy 63 = .ok (.if_icmp .eq 6, 3) := by decide +kernel
theorem dX11_copy_66 : decode cX11_copy 66 = .ok (.bipush (-12), 2) := by decide +kernel
theorem dX11_copy_68 : decode cX11_copy 68 = .ok (.ireturn, 1) := by decide +kernel
theorem dX11_copy_69 : decode cX11_copy 69 = .ok (.aload 6, 2) := by decide +kernel
theorem dX11_copy_71 : decode cX11_copy 71 = .ok (.iload_n 2, 1) := by decide +kernel
theorem dX11_copy_72 : decode cX11_copy 72 = .ok (.iload 5, 2) := by decide +kernel
theorem dX11_copy_74 : decode cX11_copy 74 = .ok (.invokevirtual 510, 3) := by decide +kernel
theorem dX11_copy_77 : decode cX11_copy 77 = .ok (.ifCond .eq 15, 3) := by decide +kernel
theorem dX11_copy_80 : decode cX11_copy 80 = .ok (.aload 7, 2) := by decide +kernel
theorem dX11_copy_82 : decode cX11_copy 82 = .ok (.iload 4, 2) := by decide +kernel
theorem dX11_copy_84 : decode cX11_copy 84 = .ok (.iload 5, 2) := by decide +kernel
theorem dX11_copy_86 : decode cX11_copy 86 = .ok (.invokevirtual 510, 3) := by decide +kernel
theorem dX11_copy_89 : decode cX11_copy 89 = .ok (.ifCond .ne 6, 3) := by decide +kernel
theorem dX11_copy_92 : decode cX11_copy 92 = .ok (.bipush (-13), 2) := by decide +kernel
theorem dX11_copy_94 : decode cX11_copy 94 = .ok (.ireturn, 1) := by decide +kernel
theorem dX11_copy_95 : decode cX11_copy 95 = .ok (.aload 6, 2) := by decide +kernel
theorem dX11_copy_97 : decode cX11_copy 97 = .ok (.getfield 513, 3) := by decide +kernel
theorem dX11_copy_100 : decode cX11_copy 100 = .ok (.iload_n 2, 1) := by decide +kernel
theorem dX11_copy_101 : decode cX11_copy 101 = .ok (.aload 7, 2) := by decide +kernel
theorem dX11_copy_103 : decode cX11_copy 103 = .ok (.getfield 513, 3) := by decide +kernel
theorem dX11_copy_106 : decode cX11_copy 106 = .ok (.iload 4, 2) := by decide +kernel
theorem dX11_copy_108 : decode cX11_copy 108 = .ok (.iload 5, 2) := by decide +kernel
theorem dX11_copy_110 : decode cX11_copy 110 = .ok (.invokestatic 516, 3) := by decide +kernel
theorem dX11_copy_113 : decode cX11_copy 113 = .ok (.iload 5, 2) := by decide +kernel
theorem dX11_copy_115 : decode cX11_copy 115 = .ok (.ireturn, 1) := by decide +kernel
theorem dX11_weight_0 : decode cX11_weight 0 = .ok (.aload_n 0, 1) := by decide +kernel
theorem dX11_weight_1 : decode cX11_weight 1 = .ok (.iload_n 1, 1) := by decide +kernel
theorem dX11_weight_2 : decode cX11_weight 2 = .ok (.invokevirtual 522, 3) := by decide +kernel
theorem dX11_weight_5 : decode cX11_weight 5 = .ok (.istore_n 2, 1) := by decide +kernel
theorem dX11_weight_6 : decode cX11_weight 6 = .ok (.aload_n 0, 1) := by decide +kernel
theorem dX11_weight_7 : decode cX11_weight 7 = .ok (.iload_n 1, 1) := by decide +kernel
theorem dX11_weight_8 : decode cX11_weight 8 = .ok (.invokevirtual 525, 3) := by decide +kernel
theorem dX11_weight_11 : decode cX11_weight 11 = .ok (.astore_n 3, 1) := by decide +kernel
theorem dX11_weight_12 : decode cX11_weight 12 = .ok (.iload_n 2, 1) := by decide +kernel
theorem dX11_weight_13 : decode cX11_weight 13 = .ok (.ifCond .ne 7, 3) := by decide +kernel
theorem dX11_weight_16 : decode cX11_weight 16 = .ok (.aload_n 3, 1) := by decide +kernel
theorem dX11_weight_17 : decode cX11_weight 17 = .ok (.ifnonnull 5, 3) := by decide +kernel
theorem dX11_weight_20 : decode cX11_weight 20 = .ok (.iload_n 2, 1) := by decide +kernel
theorem dX11_weight_21 : decode cX11_weight 21 = .ok (.ireturn, 1) := by decide +kernel
theorem dX11_weight_22 : decode cX11_weight 22 = .ok (.aload_n 3, 1) := by decide +kernel
theorem dX11_weight_23 : decode cX11_weight 23 = .ok (.getfield 289, 3) := by decide +kernel
theorem dX11_weight_26 : decode cX11_weight 26 = .ok (.getfield 199, 3) := by decide +kernel
theorem dX11_weight_29 : decode cX11_weight 29 = .ok (.istore 4, 2) := by decide +kernel
theorem dX11_weight_31 : decode cX11_weight 31 = .ok (.bipush 10, 2) := by decide +kernel
theorem dX11_weight_33 : decode cX11_weight 33 = .ok (.aload_n 3, 1) := by decide +kernel
theorem dX11_weight_34 : decode cX11_weight 34 = .ok (.getfield 289, 3) := by decide +kernel
theorem dX11_weight_37 : decode cX11_weight 37 = .ok (.getfield 396, 3) := by decide +kernel
theorem dX11_weight_40 : decode cX11_weight 40 = .ok (.imul, 1) := by decide +kernel
theorem dX11_weight_41 : decode cX11_weight 41 = .ok (.iload 4, 2) := by decide +kernel
theorem dX11_weight_43 : decode cX11_weight 43 = .ok (.iadd, 1) := by decide +kernel
theorem dX11_weight_44 : decode cX11_weight 44 = .ok (.istore 5, 2) := by decide +kernel
theorem dX11_weight_46 : decode cX11_weight 46 = .ok (.iload 4, 2) := by decide +kernel
theorem dX11_weight_48 : decode cX11_weight 48 = .ok (.ifCond .eq 6, 3) := by decide +kernel
theorem dX11_weight_51 : decode cX11_weight 51 = .ok (.iinc 5 100, 3) := by decide +kernel
theorem dX11_weight_54 : decode cX11_weight 54 = .ok (.iload 4, 2) := by decide +kernel
theorem dX11_weight_56 : decode cX11_weight 56 = .ok (.iconst 3, 1) := by decide +kernel
theorem dX11_weight_57 : decode cX11_weight 57 = .ok (.if_icmp .eq 9, 3) := by decide +kernel
theorem dX11_weight_60 : decode cX11_weight 60 = .ok (.iload 4, 2) := by decide +kernel
theorem dX11_weight_62 : decode cX11_weight 62 = .ok (.iconst 5, 1) := by decide +kernel
theorem dX11_weight_63 : decode cX11_weight 63 = .ok (.if_icmp .ne 9, 3) := by decide +kernel
theorem dX11_weight_66 : decode cX11_weight 66 = .ok (.iinc 5 1000, 6) := by decide +kernel
theorem dX11_weight_72 : decode cX11_weight 72 = .ok (.iload 5, 2) := by decide +kernel
theorem dX11_weight_74 : decode cX11_weight 74 = .ok (.ireturn, 1) := by decide +kernel
theorem dX11_toss_0 : decode cX11_toss 0 = .ok (.aload_n 0, 1) := by decide +kernel
theorem dX11_toss_1 : decode cX11_toss 1 = .ok (.iload_n 1, 1) := by decide +kernel
theorem dX11_toss_2 : decode cX11_toss 2 = .ok (.invokevirtual 522, 3) := by decide +kernel
theorem dX11_toss_5 : decode cX11_toss 5 = .ok (.istore_n 2, 1) := by decide +kernel
theorem dX11_toss_6 : decode cX11_toss 6 = .ok (.aload_n 0, 1) := by decide +kernel
theorem dX11_toss_7 : decode cX11_toss 7 = .ok (.iload_n 1, 1) := by decide +kernel
theorem dX11_toss_8 : decode cX11_toss 8 = .ok (.invokevirtual 525, 3) := by decide +kernel
theorem dX11_toss_11 : decode cX11_toss 11 = .ok (.astore_n 3, 1) := by decide +kernel
theorem dX11_toss_12 : decode cX11_toss 12 = .ok (.iload_n 2, 1) := by decide +kernel
theorem dX11_toss_13 : decode cX11_toss 13 = .ok (.ifCond .ne 7, 3) := by decide +kernel
theorem dX11_toss_16 : decode cX11_toss 16 = .ok (.aload_n 3, 1) := by decide +kernel
theorem dX11_toss_17 : decode cX11_toss 17 = .ok (.ifnonnull 5, 3) := by decide +kernel
theorem dX11_toss_20 : decode cX11_toss 20 = .ok (.iload_n 2, 1) := by decide +kernel
theorem dX11_toss_21 : decode cX11_toss 21 = .ok (.ireturn, 1) := by decide +kernel
theorem dX11_toss_22 : decode cX11_toss 22 = .ok (.aload_n 3, 1) := by decide +kernel
theorem dX11_toss_23 : decode cX11_toss 23 = .ok (.invokestatic 528, 3) := by decide +kernel
theorem dX11_toss_26 : decode cX11_toss 26 = .ok (.bipush (-15), 2) := by decide +kernel
theorem dX11_toss_28 : decode cX11_toss 28 = .ok (.ireturn, 1) := by decide +kernel
theorem dX11_toss_29 : decode cX11_toss 29 = .ok (.astore 4, 2) := by decide +kernel
theorem dX11_toss_31 : decode cX11_toss 31 = .ok (.aload_n 3, 1) := by decide +kernel
theorem dX11_toss_32 : decode cX11_toss 32 = .ok (.getfield 289, 3) := by decide +kernel
theorem dX11_toss_35 : decode cX11_toss 35 = .ok (.getfield 101, 3) := by decide +kernel
theorem dX11_toss_38 : decode cX11_toss 38 = .ok (.ireturn, 1) := by decide +kernel
theorem dX11_throwFailure_0 : decode cX11_throwFailure 0 = .ok (.aload_n 0, 1) := by decide +kernel
theorem dX11_throwFailure_1 : decode cX11_throwFailure 1 = .ok (.getfield 289, 3) := by decide +kernel
theorem dX11_throwFailure_4 : decode cX11_throwFailure 4 = .ok (.getfield 199, 3) := by decide +kernel
theorem dX11_throwFailure_7 : decode cX11_throwFailure 7 = .ok (.ifCond .eq 14, 3) := by decide +kernel
theorem dX11_throwFailure_10 : decode cX11_throwFailure 10 = .ok (.new 502, 3) := by decide +kernel
theorem dX11_throwFailure_13 : decode cX11_throwFailure 13 = .ok (.dup, 1) := by decide +kernel
theorem dX11_throwFailure_14 : decode cX11_throwFailure 14 = .ok (.ldc_w 531, 3) := by decide +kernel
theorem dX11_throwFailure_17 : decode cX11_throwFailure 17 = .ok (.invokespecial 506, 3) := by decide +kernel
theorem dX11_throwFailure_20 : decode cX11_throwFailure 20 = .ok (.athrow, 1) := by decide +kernel
theorem dX11_throwFailure_21 : decode cX11_throwFailure 21 = .ok (.return_, 1) := by decide +kernel
theorem dX11_refusalOfAlarm_0 : decode cX11_refusalOfAlarm 0 = .ok (.aload_n 0, 1) := by decide +kernel
theorem dX11_refusalOfAlarm_1 : decode cX11_refusalOfAlarm 1 = .ok (.iload_n 1, 1) := by decide +kernel
theorem dX11_refusalOfAlarm_2 : decode cX11_refusalOfAlarm 2 = .ok (.invokevirtual 464, 3) := by decide +kernel
theorem dX11_refusalOfAlarm_5 : decode cX11_refusalOfAlarm 5 = .ok (.astore_n 2, 1) := by decide +kernel
theorem dX11_refusalOfAlarm_6 : decode cX11_refusalOfAlarm 6 = .ok (.aload_n 2, 1) := by decide +kernel
theorem dX11_refusalOfAlarm_7 : decode cX11_refusalOfAlarm 7 = .ok (.ifnonnull 5, 3) := by decide +kernel
theorem dX11_refusalOfAlarm_10 : decode cX11_refusalOfAlarm 10 = .ok (.iconst (-1), 1) := by decide +kernel
theorem dX11_refusalOfAlarm_11 : decode cX11_refusalOfAlarm 11 = .ok (.ireturn, 1) := by decide +kernel
theorem dX11_refusalOfAlarm_12 : decode cX11_refusalOfAlarm 12 = .ok (.aload_n 2, 1) := by decide +kernel
theorem dX11_refusalOfAlarm_13 : decode cX11_refusalOfAlarm 13 = .ok (.getfield 509, 3) := by decide +kernel
theorem dX11_refusalOfAlarm_16 : decode cX11_refusalOfAlarm 16 = .ok (.ifCond .ne 6, 3) := by decide +kernel
theorem dX11_refusalOfAlarm_19 : decode cX11_refusalOfAlarm 19 = .ok (.bipush (-11), 2) := by decide +kernel
theorem dX11_refusalOfAlarm_21 : decode cX11_refusalOfAlarm 21 = .ok (.ireturn, 1) := by decide +kernel
theorem dX11_refusalOfAlarm_22 : decode cX11_refusalOfAlarm 22 = .ok (.aload_n 2, 1) := by decide +kernel
theorem dX11_refusalOfAlarm_23 : decode cX11_refusalOfAlarm 23 = .ok (.getfield 533, 3) := by decide +kernel
theorem dX11_refusalOfAlarm_26 : decode cX11_refusalOfAlarm 26 = .ok (.ifnonnull 8, 3) := by decide +kernel
theorem dX11_refusalOfAlarm_29 : decode cX11_refusalOfAlarm 29 = .ok (.bipush (-12), 2) := by decide +kernel
theorem dX11_refusalOfAlarm_31 : decode cX11_refusalOfAlarm 31 = .ok (.goto 4, 3) := by decide +kernel
theorem dX11_refusalOfAlarm_34 : decode cX11_refusalOfAlarm 34 = .ok (.iconst 0, 1) := by decide +kernel
theorem dX11_refusalOfAlarm_35 : decode cX11_refusalOfAlarm 35 = .ok (.ireturn, 1) := by decide +kernel
theorem dX11_alarmOn_0 : decode cX11_alarmOn 0 = .ok (.aload_n 0, 1) := by decide +kernel
theorem dX11_alarmOn_1 : decode cX11_alarmOn 1 = .ok (.iload_n 1, 1) := by decide +kernel
theorem dX11_alarmOn_2 : decode cX11_alarmOn 2 = .ok (.invokevirtual 464, 3) := by decide +kernel
theorem dX11_alarmOn_5 : decode cX11_alarmOn 5 = .ok (.astore_n 2, 1) := by decide +kernel
theorem dX11_alarmOn_6 : decode cX11_alarmOn 6 = .ok (.aload_n 2, 1) := by decide +kernel
theorem dX11_alarmOn_7 : decode cX11_alarmOn 7 = .ok (.ifnonnull 7, 3) := by decide +kernel
theorem dX11_alarmOn_10 : decode cX11_alarmOn 10 = .ok (.aconst_null, 1) := by decide +kernel
theorem dX11_alarmOn_11 : decode cX11_alarmOn 11 = .ok (.goto 7, 3) := by decide +kernel
theorem dX11_alarmOn_14 : decode cX11_alarmOn 14 = .ok (.aload_n 2, 1) := by decide +kernel
theorem dX11_alarmOn_15 : decode cX11_alarmOn 15 = .ok (.getfield 533, 3) := by decide +kernel
theorem dX11_alarmOn_18 : decode cX11_alarmOn 18 = .ok (.areturn, 1) := by decide +kernel
theorem dX11_isWithin_0 : decode cX11_isWithin 0 = .ok (.iload_n 0, 1) := by decide +kernel
theorem dX11_isWithin_1 : decode cX11_isWithin 1 = .ok (.iload_n 1, 1) := by decide +kernel
theorem dX11_isWithin_2 : decode cX11_isWithin 2 = .ok (.if_icmp .lt 12, 3) := by decide +kernel
theorem dX11_isWithin_5 : decode cX11_isWithin 5 = .ok (.iload_n 0, 1) := by decide +kernel
theorem dX11_isWithin_6 : decode cX11_isWithin 6 = .ok (.iload_n 2, 1) := by decide +kernel
theorem dX11_isWithin_7 : decode cX11_isWithin 7 = .ok (.if_icmp .gt 7, 3) := by decide +kernel
theorem dX11_isWithin_10 : decode cX11_isWithin 10 = .ok (.iconst 1, 1) := by decide +kernel
theorem dX11_isWithin_11 : decode cX11_isWithin 11 = .ok (.goto 4, 3) := by decide +kernel
theorem dX11_isWithin_14 : decode cX11_isWithin 14 = .ok (.iconst 0, 1) := by decide +kernel
theorem dX11_isWithin_15 : decode cX11_isWithin 15 = .ok (.ireturn, 1) := by decide +kernel
theorem dX11_areTicks_0 : decode cX11_areTicks 0 = .ok (.iload_n 0, 1) := by decide +kernel
theorem dX11_areTicks_1 : decode cX11_areTicks 1 = .ok (.iconst 1, 1) := by decide +kernel
theorem dX11_areTicks_2 : decode cX11_areTicks 2 = .ok (.if_icmp .lt 19, 3) := by decide +kernel
theorem dX11_areTicks_5 : decode cX11_areTicks 5 = .ok (.iload_n 0, 1) := by decide +kernel
theorem dX11_areTicks_6 : decode cX11_areTicks 6 = .ok (.iload_n 1, 1) := by decide +kernel
theorem dX11_areTicks_7 : decode cX11_areTicks 7 = .ok (.if_icmp .gt 14, 3) := by decide +kernel
theorem dX11_areTicks_10 : decode cX11_areTicks 10 = .ok (.iload_n 1, 1) := by decide +kernel
theorem dX11_areTicks_11 : decode cX11_areTicks 11 = .ok (.sipush 1000, 3) := by decide +kernel
theorem dX11_areTicks_14 : decode cX11_areTicks 14 = .ok (.if_icmp .gt 7, 3) := by decide +kernel
theorem dX11_areTicks_17 : decode cX11_areTicks 17 = .ok (.iconst 1, 1) := by decide +kernel
theorem dX11_areTicks_18 : decode cX11_areTicks 18 = .ok (.goto 4, 3) := by decide +kernel
theorem dX11_areTicks_21 : decode cX11_areTicks 21 = .ok (.iconst 0, 1) := by decide +kernel
theorem dX11_areTicks_22 : decode cX11_areTicks 22 = .ok (.ireturn, 1) := by decide +kernel
theorem dX11_bit_0 : decode cX11_bit 0 = .ok (.iload_n 0, 1) := by decide +kernel
theorem dX11_bit_1 : decode cX11_bit 1 = .ok (.ifCond .eq 7, 3) := by decide +kernel
theorem dX11_bit_4 : decode cX11_bit 4 = .ok (.iconst 1, 1) := by decide +kernel
theorem dX11_bit_5 : decode cX11_bit 5 = .ok (.goto 4, 3) := by decide +kernel
theorem dX11_bit_8 : decode cX11_bit 8 = .ok (.iconst 0, 1) := by decide +kernel
theorem dX11_bit_9 : decode cX11_bit 9 = .ok (.ireturn, 1) := by decide +kernel
theorem dX11_sourceAt_0 : decode cX11_sourceAt 0 = .ok (.iload_n 1, 1) := by decide +kernel
theorem dX11_sourceAt_1 : decode cX11_sourceAt 1 = .ok (.ifCond .lt 28, 3) := by decide +kernel
theorem dX11_sourceAt_4 : decode cX11_sourceAt 4 = .ok (.iload_n 1, 1) := by decide +kernel
theorem dX11_sourceAt_5 : decode cX11_sourceAt 5 = .ok (.aload_n 0, 1) := by decide +kernel
theorem dX11_sourceAt_6 : decode cX11_sourceAt 6 = .ok (.getfield 10, 3) := by decide +kernel
theorem dX11_sourceAt_9 : decode cX11_sourceAt 9 = .ok (.invokevirtual 75, 3) := by decide +kernel
theorem dX11_sourceAt_12 : decode cX11_sourceAt 12 = .ok (.if_icmp .ge 17, 3) := by decide +kernel
theorem dX11_sourceAt_15 : decode cX11_sourceAt 15 = .ok (.aload_n 0, 1) := by decide +kernel
theorem dX11_sourceAt_16 : decode cX11_sourceAt 16 = .ok (.getfield 10, 3) := by decide +kernel
theorem dX11_sourceAt_19 : decode cX11_sourceAt 19 = .ok (.iload_n 1, 1) := by decide +kernel
theorem dX11_sourceAt_20 : decode cX11_sourceAt 20 = .ok (.invokevirtual 115, 3) := by decide +kernel
theorem dX11_sourceAt_23 : decode cX11_sourceAt 23 = .ok (.checkcast 79, 3) := by decide +kernel
theorem dX11_sourceAt_26 : decode cX11_sourceAt 26 = .ok (.goto 4, 3) := by decide +kernel
theorem dX11_sourceAt_29 : decode cX11_sourceAt 29 = .ok (.aconst_null, 1) := by decide +kernel
theorem dX11_sourceAt_30 : decode cX11_sourceAt 30 = .ok (.areturn, 1) := by decide +kernel
theorem dX11_ruleAt_0 : decode cX11_ruleAt 0 = .ok (.iload_n 1, 1) := by decide +kernel
theorem dX11_ruleAt_1 : decode cX11_ruleAt 1 = .ok (.ifCond .lt 28, 3) := by decide +kernel
theorem dX11_ruleAt_4 : decode cX11_ruleAt 4 = .ok (.iload_n 1, 1) := by decide +kernel
theorem dX11_ruleAt_5 : decode cX11_ruleAt 5 = .ok (.aload_n 0, 1) := by decide +kernel
theorem dX11_ruleAt_6 : decode cX11_ruleAt 6 = .ok (.getfield 16, 3) := by decide +kernel
theorem dX11_ruleAt_9 : decode cX11_ruleAt 9 = .ok (.invokevirtual 75, 3) := by decide +kernel
theorem dX11_ruleAt_12 : decode cX11_ruleAt 12 = .ok (.if_icmp .ge 17, 3) := by decide +kernel
theorem dX11_ruleAt_15 : decode cX11_ruleAt 15 = .ok (.aload_n 0, 1) := by decide +kernel
theorem dX11_ruleAt_16 : decode cX11_ruleAt 16 = .ok (.getfield 16, 3) := by decide +kernel
theorem dX11_ruleAt_19 : decode cX11_ruleAt 19 = .ok (.iload_n 1, 1) := by decide +kernel
theorem dX11_ruleAt_20 : decode cX11_ruleAt 20 = .ok (.invokevirtual 115, 3) := by decide +kernel
theorem dX11_ruleAt_23 : decode cX11_ruleAt 23 = .ok (.checkcast 96, 3) := by decide +kernel
theorem dX11_ruleAt_26 : decode cX11_ruleAt 26 = .ok (.goto 4, 3) := by decide +kernel
theorem dX11_ruleAt_29 : decode cX11_ruleAt 29 = .ok (.aconst_null, 1) := by decide +kernel
theorem dX11_ruleAt_30 : decode cX11_ruleAt 30 = .ok (.areturn, 1) := by decide +kernel
theorem dX11_alarmAt_0 : decode cX11_alarmAt 0 = .ok (.iload_n 1, 1) := by decide +kernel
theorem dX11_alarmAt_1 : decode cX11_alarmAt 1 = .ok (.ifCond .lt 28, 3) := by decide +kernel
theorem dX11_alarmAt_4 : decode cX11_alarmAt 4 = .ok (.iload_n 1, 1) := by decide +kernel
theorem dX11_alarmAt_5 : decode cX11_alarmAt 5 = .ok (.aload_n 0, 1) := by decide +kernel
theorem dX11_alarmAt_6 : decode cX11_alarmAt 6 = .ok (.getfield 22, 3) := by decide +kernel
theorem dX11_alarmAt_9 : decode cX11_alarmAt 9 = .ok (.invokevirtual 75, 3) := by decide +kernel
theorem dX11_alarmAt_12 : decode cX11_alarmAt 12 = .ok (.if_icmp .ge 17, 3) := by decide +kernel
theorem dX11_alarmAt_15 : decode cX11_alarmAt 15 = .ok (.aload_n 0, 1) := by decide +kernel
theorem dX11_alarmAt_16 : decode cX11_alarmAt 16 = .ok (.getfield 22, 3) := by decide +kernel
theorem dX11_alarmAt_19 : decode cX11_alarmAt 19 = .ok (.iload_n 1, 1) := by decide +kernel
theorem dX11_alarmAt_20 : decode cX11_alarmAt 20 = .ok (.invokevirtual 115, 3) := by decide +kernel
theorem dX11_alarmAt_23 : decode cX11_alarmAt 23 = .ok (.checkcast 240, 3) := by decide +kernel
theorem dX11_alarmAt_26 : decode cX11_alarmAt 26 = .ok (.goto 4, 3) := by decide +kernel
theorem dX11_alarmAt_29 : decode cX11_alarmAt 29 = .ok (.aconst_null, 1) := by decide +kernel
theorem dX11_alarmAt_30 : decode cX11_alarmAt 30 = .ok (.areturn, 1) := by decide +kernel
theorem dX11_letterAt_0 : decode cX11_letterAt 0 = .ok (.iload_n 1, 1) := by decide +kernel
theorem dX11_letterAt_1 : decode cX11_letterAt 1 = .ok (.ifCond .lt 28, 3) := by decide +kernel
theorem dX11_letterAt_4 : decode cX11_letterAt 4 = .ok (.iload_n 1, 1) := by decide +kernel
theorem dX11_letterAt_5 : decode cX11_letterAt 5 = .ok (.aload_n 0, 1) := by decide +kernel
theorem dX11_letterAt_6 : decode cX11_letterAt 6 = .ok (.getfield 28, 3) := by decide +kernel
theorem dX11_letterAt_9 : decode cX11_letterAt 9 = .ok (.invokevirtual 75, 3) := by decide +kernel
theorem dX11_letterAt_12 : decode cX11_letterAt 12 = .ok (.if_icmp .ge 17, 3) := by decide +kernel
theorem dX11_letterAt_15 : decode cX11_letterAt 15 = .ok (.aload_n 0, 1) := by decide +kernel
theorem dX11_letterAt_16 : decode cX11_letterAt 16 = .ok (.getfield 28, 3) := by decide +kernel
theorem dX11_letterAt_19 : decode cX11_letterAt 19 = .ok (.iload_n 1, 1) := by decide +kernel
theorem dX11_letterAt_20 : decode cX11_letterAt 20 = .ok (.invokevirtual 115, 3) := by decide +kernel
theorem dX11_letterAt_23 : decode cX11_letterAt 23 = .ok (.checkcast 313, 3) := by decide +kernel
theorem dX11_letterAt_26 : decode cX11_letterAt 26 = .ok (.goto 4, 3) := by decide +kernel
theorem dX11_letterAt_29 : decode cX11_letterAt 29 = .ok (.aconst_null, 1) := by decide +kernel
theorem dX11_letterAt_30 : decode cX11_letterAt 30 = .ok (.areturn, 1) := by decide +kernel
theorem dX11_boardAt_0 : decode cX11_boardAt 0 = .ok (.iload_n 1, 1) := by decide +kernel
theorem dX11_boardAt_1 : decode cX11_boardAt 1 = .ok (.ifCond .lt 21, 3) := by decide +kernel
theorem dX11_boardAt_4 : decode cX11_boardAt 4 = .ok (.iload_n 1, 1) := by decide +kernel
theorem dX11_boardAt_5 : decode cX11_boardAt 5 = .ok (.aload_n 0, 1) := by decide +kernel
theorem dX11_boardAt_6 : decode cX11_boardAt 6 = .ok (.getfield 33, 3) := by decide +kernel
theorem dX11_boardAt_9 : decode cX11_boardAt 9 = .ok (.arraylength, 1) := by decide +kernel
theorem dX11_boardAt_10 : decode cX11_boardAt 10 = .ok (.if_icmp .ge 12, 3) := by decide +kernel
theorem dX11_boardAt_13 : decode cX11_boardAt 13 = .ok (.aload_n 0, 1) := by decide +kernel
theorem dX11_boardAt_14 : decode cX11_boardAt 14 = .ok (.getfield 33, 3) := by decide +kernel
theorem dX11_boardAt_17 : decode cX11_boardAt 17 = .ok (.iload_n 1, 1) := by decide +kernel
theorem dX11_boardAt_18 : decode cX11_boardAt 18 = .ok (.aaload, 1) := by decide +kernel
theorem dX11_boardAt_19 : decode cX11_boardAt 19 = .ok (.goto 4, 3) := by decide +kernel
theorem dX11_boardAt_22 : decode cX11_boardAt 22 = .ok (.aconst_null, 1) := by decide +kernel
theorem dX11_boardAt_23 : decode cX11_boardAt 23 = .ok (.areturn, 1) := by decide +kernel
theorem dX11_watchOf_0 : decode cX11_watchOf 0 = .ok (.aload_n 0, 1) := by decide +kernel
theorem dX11_watchOf_1 : decode cX11_watchOf 1 = .ok (.iload_n 1, 1) := by decide +kernel
theorem dX11_watchOf_2 : decode cX11_watchOf 2 = .ok (.invokevirtual 104, 3) := by decide +kernel
theorem dX11_watchOf_5 : decode cX11_watchOf 5 = .ok (.astore_n 3, 1) := by decide +kernel
theorem dX11_watchOf_6 : decode cX11_watchOf 6 = .ok (.aload_n 3, 1) := by decide +kernel
theorem dX11_watchOf_7 : decode cX11_watchOf 7 = .ok (.ifnull 11, 3) := by decide +kernel
theorem dX11_watchOf_10 : decode cX11_watchOf 10 = .ok (.aload_n 0, 1) := by decide +kernel
theorem dX11_watchOf_11 : decode cX11_watchOf 11 = .ok (.iload_n 2, 1) := by decide +kernel
theorem dX11_watchOf_12 : decode cX11_watchOf 12 = .ok (.invokevirtual 150, 3) := by decide +kernel
theorem dX11_watchOf_15 : decode cX11_watchOf 15 = .ok (.ifnonnull 7, 3) := by decide +kernel
theorem dX11_watchOf_18 : decode cX11_watchOf 18 = .ok (.aconst_null, 1) := by decide +kernel
theorem dX11_watchOf_19 : decode cX11_watchOf 19 = .ok (.goto 8, 3) := by decide +kernel
theorem dX11_watchOf_22 : decode cX11_watchOf 22 = .ok (.aload_n 3, 1) := by decide +kernel
theorem dX11_watchOf_23 : decode cX11_watchOf 23 = .ok (.iload_n 2, 1) := by decide +kernel
theorem dX11_watchOf_24 : decode cX11_watchOf 24 = .ok (.invokevirtual 191, 3) := by decide +kernel
theorem dX11_watchOf_27 : decode cX11_watchOf 27 = .ok (.areturn, 1) := by decide +kernel
