theorem d_R_passTicks_26 : decode c_R_passTicks 26 = .ok (.aload_n 0, 1) := by decide +kernel
theorem d_R_passTicks_27 : decode c_R_passTicks 27 = .ok (.aload_n 0, 1) := by decide +kernel
theorem d_R_passTicks_28 : decode c_R_passTicks 28 = .ok (.getfield 15, 3) := by decide +kernel
theorem d_R_passTicks_31 : decode c_R_passTicks 31 = .ok (.invokevirtual 68, 3) := by decide +kernel
theorem d_R_passTicks_34 : decode c_R_passTicks 34 = .ok (.iadd, 1) := by decide +kernel
theorem d_R_passTicks_35 : decode c_R_passTicks 35 = .ok (.invokestatic 72, 3) := by decide +kernel
theorem d_R_passTicks_38 : decode c_R_passTicks 38 = .ok (.istore_n 3, 1) := by decide +kernel
theorem d_R_passTicks_39 : decode c_R_passTicks 39 = .ok (.iload_n 3, 1) := by decide +kernel
theorem d_R_passTicks_40 : decode c_R_passTicks 40 = .ok (.iload_n 2, 1) := by decide +kernel
theorem d_R_passTicks_41 : decode c_R_passTicks 41 = .ok (.if_icmp .le 4, 3) := by decide +kernel
theorem d_R_passTicks_44 : decode c_R_passTicks 44 = .ok (.return_, 1) := by decide +kernel
theorem d_R_passTicks_45 : decode c_R_passTicks 45 = .ok (.aload_n 0, 1) := by decide +kernel
theorem d_R_passTicks_46 : decode c_R_passTicks 46 = .ok (.iload_n 3, 1) := by decide +kernel
theorem d_R_passTicks_47 : decode c_R_passTicks 47 = .ok (.invokevirtual 78, 3) := by decide +kernel
theorem d_R_passTicks_50 : decode c_R_passTicks 50 = .ok (.iinc 4 1, 3) := by decide +kernel
theorem d_R_passTicks_53 : decode c_R_passTicks 53 = .ok (.goto (-48), 3) := by decide +kernel
theorem d_R_passTicks_56 : decode c_R_passTicks 56 = .ok (.return_, 1) := by decide +kernel
theorem d_R_judge_0 : decode c_R_judge 0 = .ok (.aload_n 0, 1) := by decide +kernel
theorem d_R_judge_1 : decode c_R_judge 1 = .ok (.invokevirtual 81, 3) := by decide +kernel
theorem d_R_judge_4 : decode c_R_judge 4 = .ok (.ifCond .ne 11, 3) := by decide +kernel
theorem d_R_judge_7 : decode c_R_judge 7 = .ok (.aload_n 0, 1) := by decide +kernel
theorem d_R_judge_8 : decode c_R_judge 8 = .ok (.iconst 1, 1) := by decide +kernel
theorem d_R_judge_9 : decode c_R_judge 9 = .ok (.invokevirtual 58, 3) := by decide +kernel
theorem d_R_judge_12 : decode c_R_judge 12 = .ok (.goto 50, 3) := by decide +kernel
theorem d_R_judge_15 : decode c_R_judge 15 = .ok (.aload_n 0, 1) := by decide +kernel
theorem d_R_judge_16 : decode c_R_judge 16 = .ok (.invokevirtual 85, 3) := by decide +kernel
theorem d_R_judge_19 : decode c_R_judge 19 = .ok (.ifCond .eq 11, 3) := by decide +kernel
theorem d_R_judge_22 : decode c_R_judge 22 = .ok (.aload_n 0, 1) := by decide +kernel
theorem d_R_judge_23 : decode c_R_judge 23 = .ok (.iconst 2, 1) := by decide +kernel
theorem d_R_judge_24 : decode c_R_judge 24 = .ok (.invokevirtual 58, 3) := by decide +kernel
theorem d_R_judge_27 : decode c_R_judge 27 = .ok (.goto 35, 3) := by decide +kernel
theorem d_R_judge_30 : decode c_R_judge 30 = .ok (.aload_n 0, 1) := by decide +kernel
theorem d_R_judge_31 : decode c_R_judge 31 = .ok (.getfield 62, 3) := by decide +kernel
theorem d_R_judge_34 : decode c_R_judge 34 = .ok (.iconst 1, 1) := by decide +kernel
theorem d_R_judge_35 : decode c_R_judge 35 = .ok (.iadd, 1) := by decide +kernel
theorem d_R_judge_36 : decode c_R_judge 36 = .ok (.aload_n 0, 1) := by decide +kernel
theorem d_R_judge_37 : decode c_R_judge 37 = .ok (.getfield 41, 3) := by decide +kernel
theorem d_R_judge_40 : decode c_R_judge 40 = .ok (.if_icmp .ge 17, 3) := by decide +kernel
theorem d_R_judge_43 : decode c_R_judge 43 = .ok (.aload_n 0, 1) := by decide +kernel
theorem d_R_judge_44 : decode c_R_judge 44 = .ok (.aload_n 0, 1) := by decide +kernel
theorem d_R_judge_45 : decode c_R_judge 45 = .ok (.getfield 62, 3) := by decide +kernel
theorem d_R_judge_48 : decode c_R_judge 48 = .ok (.iconst 1, 1) := by decide +kernel
theorem d_R_judge_49 : decode c_R_judge 49 = .ok (.iadd, 1) := by decide +kernel
theorem d_R_judge_50 : decode c_R_judge 50 = .ok (.iload_n 1, 1) := by decide +kernel
theorem d_R_judge_51 : decode c_R_judge 51 = .ok (.invokevirtual 48, 3) := by decide +kernel
theorem d_R_judge_54 : decode c_R_judge 54 = .ok (.goto 8, 3) := by decide +kernel
theorem d_R_judge_57 : decode c_R_judge 57 = .ok (.aload_n 0, 1) := by decide +kernel
theorem d_R_judge_58 : decode c_R_judge 58 = .ok (.iconst 3, 1) := by decide +kernel
theorem d_R_judge_59 : decode c_R_judge 59 = .ok (.putfield 25, 3) := by decide +kernel
theorem d_R_judge_62 : decode c_R_judge 62 = .ok (.return_, 1) := by decide +kernel
theorem d_R_isTooBad_0 : decode c_R_isTooBad 0 = .ok (.aload_n 0, 1) := by decide +kernel
theorem d_R_isTooBad_1 : decode c_R_isTooBad 1 = .ok (.getfield 55, 3) := by decide +kernel
theorem d_R_isTooBad_4 : decode c_R_isTooBad 4 = .ok (.i2l, 1) := by decide +kernel
theorem d_R_isTooBad_5 : decode c_R_isTooBad 5 = .ok (.aload_n 0, 1) := by decide +kernel
theorem d_R_isTooBad_6 : decode c_R_isTooBad 6 = .ok (.getfield 22, 3) := by decide +kernel
theorem d_R_isTooBad_9 : decode c_R_isTooBad 9 = .ok (.i2l, 1) := by decide +kernel
theorem d_R_isTooBad_10 : decode c_R_isTooBad 10 = .ok (.lmul, 1) := by decide +kernel
theorem d_R_isTooBad_11 : decode c_R_isTooBad 11 = .ok (.aload_n 0, 1) := by decide +kernel
theorem d_R_isTooBad_12 : decode c_R_isTooBad 12 = .ok (.getfield 18, 3) := by decide +kernel
theorem d_R_isTooBad_15 : decode c_R_isTooBad 15 = .ok (.i2l, 1) := by decide +kernel
theorem d_R_isTooBad_16 : decode c_R_isTooBad 16 = .ok (.aload_n 0, 1) := by decide +kernel
theorem d_R_isTooBad_17 : decode c_R_isTooBad 17 = .ok (.invokevirtual 81, 3) := by decide +kernel
theorem d_R_isTooBad_20 : decode c_R_isTooBad 20 = .ok (.i2l, 1) := by decide +kernel
theorem d_R_isTooBad_21 : decode c_R_isTooBad 21 = .ok (.lmul, 1) := by decide +kernel
theorem d_R_isTooBad_22 : decode c_R_isTooBad 22 = .ok (.lcmp, 1) := by decide +kernel
theorem d_R_isTooBad_23 : decode c_R_isTooBad 23 = .ok (.ifCond .le 7, 3) := by decide +kernel
theorem d_R_isTooBad_26 : decode c_R_isTooBad 26 = .ok (.iconst 1, 1) := by decide +kernel
theorem d_R_isTooBad_27 : decode c_R_isTooBad 27 = .ok (.goto 4, 3) := by decide +kernel
theorem d_R_isTooBad_30 : decode c_R_isTooBad 30 = .ok (.iconst 0, 1) := by decide +kernel
theorem d_R_isTooBad_31 : decode c_R_isTooBad 31 = .ok (.ireturn, 1) := by decide +kernel
theorem d_R_rollAt_0 : decode c_R_rollAt 0 = .ok (.aload_n 0, 1) := by decide +kernel
theorem d_R_rollAt_1 : decode c_R_rollAt 1 = .ok (.iconst 1, 1) := by decide +kernel
theorem d_R_rollAt_2 : decode c_R_rollAt 2 = .ok (.putfield 25, 3) := by decide +kernel
theorem d_R_rollAt_5 : decode c_R_rollAt 5 = .ok (.aload_n 0, 1) := by decide +kernel
theorem d_R_rollAt_6 : decode c_R_rollAt 6 = .ok (.iconst 0, 1) := by decide +kernel
theorem d_R_rollAt_7 : decode c_R_rollAt 7 = .ok (.putfield 28, 3) := by decide +kernel
theorem d_R_rollAt_10 : decode c_R_rollAt 10 = .ok (.aload_n 0, 1) := by decide +kernel
theorem d_R_rollAt_11 : decode c_R_rollAt 11 = .ok (.iload_n 1, 1) := by decide +kernel
theorem d_R_rollAt_12 : decode c_R_rollAt 12 = .ok (.putfield 62, 3) := by decide +kernel
theorem d_R_rollAt_15 : decode c_R_rollAt 15 = .ok (.aload_n 0, 1) := by decide +kernel
theorem d_R_rollAt_16 : decode c_R_rollAt 16 = .ok (.iload_n 2, 1) := by decide +kernel
theorem d_R_rollAt_17 : decode c_R_rollAt 17 = .ok (.putfield 65, 3) := by decide +kernel
theorem d_R_rollAt_20 : decode c_R_rollAt 20 = .ok (.aload_n 0, 1) := by decide +kernel
theorem d_R_rollAt_21 : decode c_R_rollAt 21 = .ok (.iconst 0, 1) := by decide +kernel
theorem d_R_rollAt_22 : decode c_R_rollAt 22 = .ok (.putfield 52, 3) := by decide +kernel
theorem d_R_rollAt_25 : decode c_R_rollAt 25 = .ok (.aload_n 0, 1) := by decide +kernel
theorem d_R_rollAt_26 : decode c_R_rollAt 26 = .ok (.iconst 0, 1) := by decide +kernel
theorem d_R_rollAt_27 : decode c_R_rollAt 27 = .ok (.putfield 55, 3) := by decide +kernel
theorem d_R_rollAt_30 : decode c_R_rollAt 30 = .ok (.return_, 1) := by decide +kernel
theorem d_R_holdFor_0 : decode c_R_holdFor 0 = .ok (.aload_n 0, 1) := by decide +kernel
theorem d_R_holdFor_1 : decode c_R_holdFor 1 = .ok (.iconst 2, 1) := by decide +kernel
theorem d_R_holdFor_2 : decode c_R_holdFor 2 = .ok (.putfield 25, 3) := by decide +kernel
theorem d_R_holdFor_5 : decode c_R_holdFor 5 = .ok (.aload_n 0, 1) := by decide +kernel
theorem d_R_holdFor_6 : decode c_R_holdFor 6 = .ok (.iload_n 1, 1) := by decide +kernel
theorem d_R_holdFor_7 : decode c_R_holdFor 7 = .ok (.putfield 28, 3) := by decide +kernel
theorem d_R_holdFor_10 : decode c_R_holdFor 10 = .ok (.return_, 1) := by decide +kernel
theorem d_R_isAtStage_0 : decode c_R_isAtStage 0 = .ok (.aload_n 0, 1) := by decide +kernel
theorem d_R_isAtStage_1 : decode c_R_isAtStage 1 = .ok (.getfield 25, 3) := by decide +kernel
theorem d_R_isAtStage_4 : decode c_R_isAtStage 4 = .ok (.iconst 1, 1) := by decide +kernel
theorem d_R_isAtStage_5 : decode c_R_isAtStage 5 = .ok (.if_icmp .eq 11, 3) := by decide +kernel
theorem d_R_isAtStage_8 : decode c_R_isAtStage 8 = .ok (.aload_n 0, 1) := by decide +kernel
theorem d_R_isAtStage_9 : decode c_R_isAtStage 9 = .ok (.getfield 25, 3) := by decide +kernel
theorem d_R_isAtStage_12 : decode c_R_isAtStage 12 = .ok (.iconst 2, 1) := by decide +kernel
theorem d_R_isAtStage_13 : decode c_R_isAtStage 13 = .ok (.if_icmp .ne 7, 3) := by decide +kernel
theorem d_R_isAtStage_16 : decode c_R_isAtStage 16 = .ok (.iconst 1, 1) := by decide +kernel
theorem d_R_isAtStage_17 : decode c_R_isAtStage 17 = .ok (.goto 4, 3) := by decide +kernel
theorem d_R_isAtStage_20 : decode c_R_isAtStage 20 = .ok (.iconst 0, 1) := by decide +kernel
theorem d_R_isAtStage_21 : decode c_R_isAtStage 21 = .ok (.ireturn, 1) := by decide +kernel
theorem d_R_stageNow_0 : decode c_R_stageNow 0 = .ok (.aload_n 0, 1) := by decide +kernel
theorem d_R_stageNow_1 : decode c_R_stageNow 1 = .ok (.invokevirtual 89, 3) := by decide +kernel
theorem d_R_stageNow_4 : decode c_R_stageNow 4 = .ok (.ifCond .eq 10, 3) := by decide +kernel
theorem d_R_stageNow_7 : decode c_R_stageNow 7 = .ok (.aload_n 0, 1) := by decide +kernel
theorem d_R_stageNow_8 : decode c_R_stageNow 8 = .ok (.getfield 62, 3) := by decide +kernel
theorem d_R_stageNow_11 : decode c_R_stageNow 11 = .ok (.goto 4, 3) := by decide +kernel
theorem d_R_stageNow_14 : decode c_R_stageNow 14 = .ok (.iconst (-1), 1) := by decide +kernel
theorem d_R_stageNow_15 : decode c_R_stageNow 15 = .ok (.ireturn, 1) := by decide +kernel
theorem d_R_shareNow_0 : decode c_R_shareNow 0 = .ok (.aload_n 0, 1) := by decide +kernel
theorem d_R_shareNow_1 : decode c_R_shareNow 1 = .ok (.getfield 25, 3) := by decide +kernel
theorem d_R_shareNow_4 : decode c_R_shareNow 4 = .ok (.iconst 3, 1) := by decide +kernel
theorem d_R_shareNow_5 : decode c_R_shareNow 5 = .ok (.if_icmp .ne 7, 3) := by decide +kernel
theorem d_R_shareNow_8 : decode c_R_shareNow 8 = .ok (.sipush 1000, 3) := by decide +kernel
theorem d_R_shareNow_11 : decode c_R_shareNow 11 = .ok (.ireturn, 1) := by decide +kernel
theorem d_R_shareNow_12 : decode c_R_shareNow 12 = .ok (.aload_n 0, 1) := by decide +kernel
theorem d_R_shareNow_13 : decode c_R_shareNow 13 = .ok (.invokevirtual 89, 3) := by decide +kernel
theorem d_R_shareNow_16 : decode c_R_shareNow 16 = .ok (.ifCond .eq 14, 3) := by decide +kernel
theorem d_R_shareNow_19 : decode c_R_shareNow 19 = .ok (.aload_n 0, 1) := by decide +kernel
theorem d_R_shareNow_20 : decode c_R_shareNow 20 = .ok (.aload_n 0, 1) := by decide +kernel
theorem d_R_shareNow_21 : decode c_R_shareNow 21 = .ok (.getfield 9, 3) := by decide +kernel
theorem d_R_shareNow_24 : decode c_R_shareNow 24 = .ok (.invokevirtual 68, 3) := by decide +kernel
theorem d_R_shareNow_27 : decode c_R_shareNow 27 = .ok (.goto 4, 3) := by decide +kernel
theorem d_R_shareNow_30 : decode c_R_shareNow 30 = .ok (.iconst 0, 1) := by decide +kernel
theorem d_R_shareNow_31 : decode c_R_shareNow 31 = .ok (.ireturn, 1) := by decide +kernel
theorem d_R_valueOfStage_0 : decode c_R_valueOfStage 0 = .ok (.aload_n 0, 1) := by decide +kernel
theorem d_R_valueOfStage_1 : decode c_R_valueOfStage 1 = .ok (.getfield 62, 3) := by decide +kernel
theorem d_R_valueOfStage_4 : decode c_R_valueOfStage 4 = .ok (.ifCond .lt 21, 3) := by decide +kernel
theorem d_R_valueOfStage_7 : decode c_R_valueOfStage 7 = .ok (.aload_n 0, 1) := by decide +kernel
theorem d_R_valueOfStage_8 : decode c_R_valueOfStage 8 = .ok (.getfield 62, 3) := by decide +kernel
theorem d_R_valueOfStage_11 : decode c_R_valueOfStage 11 = .ok (.aload_n 1, 1) := by decide +kernel
theorem d_R_valueOfStage_12 : decode c_R_valueOfStage 12 = .ok (.arraylength, 1) := by decide +kernel
theorem d_R_valueOfStage_13 : decode c_R_valueOfStage 13 = .ok (.if_icmp .ge 12, 3) := by decide +kernel
theorem d_R_valueOfStage_16 : decode c_R_valueOfStage 16 = .ok (.aload_n 1, 1) := by decide +kernel
theorem d_R_valueOfStage_17 : decode c_R_valueOfStage 17 = .ok (.aload_n 0, 1) := by decide +kernel
theorem d_R_valueOfStage_18 : decode c_R_valueOfStage 18 = .ok (.getfield 62, 3) := by decide +kernel
theorem d_R_valueOfStage_21 : decode c_R_valueOfStage 21 = .ok (.iaload, 1) := by decide +kernel
theorem d_R_valueOfStage_22 : decode c_R_valueOfStage 22 = .ok (.goto 4, 3) := by decide +kernel
theorem d_R_valueOfStage_25 : decode c_R_valueOfStage 25 = .ok (.iconst 0, 1) := by decide +kernel
theorem d_R_valueOfStage_26 : decode c_R_valueOfStage 26 = .ok (.ireturn, 1) := by decide +kernel
theorem d_R_allReports_0 : decode c_R_allReports 0 = .ok (.aload_n 0, 1) := by decide +kernel
theorem d_R_allReports_1 : decode c_R_allReports 1 = .ok (.getfield 52, 3) := by decide +kernel
theorem d_R_allReports_4 : decode c_R_allReports 4 = .ok (.aload_n 0, 1) := by decide +kernel
theorem d_R_allReports_5 : decode c_R_allReports 5 = .ok (.getfield 55, 3) := by decide +kernel
theorem d_R_allReports_8 : decode c_R_allReports 8 = .ok (.iadd, 1) := by decide +kernel
theorem d_R_allReports_9 : decode c_R_allReports 9 = .ok (.ireturn, 1) := by decide +kernel
theorem d_R_isForced_0 : decode c_R_isForced 0 = .ok (.aload_n 0, 1) := by decide +kernel
theorem d_R_isForced_1 : decode c_R_isForced 1 = .ok (.getfield 34, 3) := by decide +kernel
theorem d_R_isForced_4 : decode c_R_isForced 4 = .ok (.ifCond .eq 31, 3) := by decide +kernel
theorem d_R_isForced_7 : decode c_R_isForced 7 = .ok (.aload_n 0, 1) := by decide +kernel
theorem d_R_isForced_8 : decode c_R_isForced 8 = .ok (.getfield 25, 3) := by decide +kernel
theorem d_R_isForced_11 : decode c_R_isForced 11 = .ok (.iconst 1, 1) := by decide +kernel
theorem d_R_isForced_12 : decode c_R_isForced 12 = .ok (.if_icmp .eq 19, 3) := by decide +kernel
theorem d_R_isForced_15 : decode c_R_isForced 15 = .ok (.aload_n 0, 1) := by decide +kernel
theorem d_R_isForced_16 : decode c_R_isForced 16 = .ok (.getfield 25, 3) := by decide +kernel
theorem d_R_isForced_19 : decode c_R_isForced 19 = .ok (.iconst 3, 1) := by decide +kernel
theorem d_R_isForced_20 : decode c_R_isForced 20 = .ok (.if_icmp .eq 11, 3) := by decide +kernel
theorem d_R_isForced_23 : decode c_R_isForced 23 = .ok (.aload_n 0, 1) := by decide +kernel
theorem d_R_isForced_24 : decode c_R_isForced 24 = .ok (.getfield 28, 3) := by decide +kernel
theorem d_R_isForced_27 : decode c_R_isForced 27 = .ok (.iconst 3, 1) := by decide +kernel
theorem d_R_isForced_28 : decode c_R_isForced 28 = .ok (.if_icmp .ne 7, 3) := by decide +kernel
theorem d_R_isForced_31 : decode c_R_isForced 31 = .ok (.iconst 1, 1) := by decide +kernel
theorem d_R_isForced_32 : decode c_R_isForced 32 = .ok (.goto 4, 3) := by decide +kernel
theorem d_R_isForced_35 : decode c_R_isForced 35 = .ok (.iconst 0, 1) := by decide +kernel
theorem d_R_isForced_36 : decode c_R_isForced 36 = .ok (.ireturn, 1) := by decide +kernel
theorem d_R_reachesRing_0 : decode c_R_reachesRing 0 = .ok (.aload_n 0, 1) := by decide +kernel
theorem d_R_reachesRing_1 : decode c_R_reachesRing 1 = .ok (.getfield 25, 3) := by decide +kernel
theorem d_R_reachesRing_4 : decode c_R_reachesRing 4 = .ok (.iconst 3, 1) := by decide +kernel
theorem d_R_reachesRing_5 : decode c_R_reachesRing 5 = .ok (.if_icmp .eq 18, 3) := by decide +kernel
theorem d_R_reachesRing_8 : decode c_R_reachesRing 8 = .ok (.aload_n 0, 1) := by decide +kernel
theorem d_R_reachesRing_9 : decode c_R_reachesRing 9 = .ok (.invokevirtual 89, 3) := by decide +kernel
theorem d_R_reachesRing_12 : decode c_R_reachesRing 12 = .ok (.ifCond .eq 15, 3) := by decide +kernel
theorem d_R_reachesRing_15 : decode c_R_reachesRing 15 = .ok (.aload_n 0, 1) := by decide +kernel
theorem d_R_reachesRing_16 : decode c_R_reachesRing 16 = .ok (.getfield 62, 3) := by decide +kernel
theorem d_R_reachesRing_19 : decode c_R_reachesRing 19 = .ok (.iload_n 1, 1) := by decide +kernel
theorem d_R_reachesRing_20 : decode c_R_reachesRing 20 = .ok (.if_icmp .lt 7, 3) := by decide +kernel
theorem d_R_reachesRing_23 : decode c_R_reachesRing 23 = .ok (.iconst 1, 1) := by decide +kernel
theorem d_R_reachesRing_24 : decode c_R_reachesRing 24 = .ok (.goto 4, 3) := by decide +kernel
theorem d_R_reachesRing_27 : decode c_R_reachesRing 27 = .ok (.iconst 0, 1) := by decide +kernel
theorem d_R_reachesRing_28 : decode c_R_reachesRing 28 = .ok (.ireturn, 1) := by decide +kernel
theorem d_L_law_0 : decode c_L_law 0 = .ok (.new 7, 3) := by decide +kernel
theorem d_L_law_3 : decode c_L_law 3 = .ok (.dup, 1) := by decide +kernel
theorem d_L_law_4 : decode c_L_law 4 = .ok (.invokespecial 9, 3) := by decide +kernel
theorem d_L_law_7 : decode c_L_law 7 = .ok (.astore_n 1, 1) := by decide +kernel
theorem d_L_law_8 : decode c_L_law 8 = .ok (.new 10, 3) := by decide +kernel
theorem d_L_law_11 : decode c_L_law 11 = .ok (.dup, 1) := by decide +kernel
theorem d_L_law_12 : decode c_L_law 12 = .ok (.invokespecial 12, 3) := by decide +kernel
theorem d_L_law_15 : decode c_L_law 15 = .ok (.astore_n 2, 1) := by decide +kernel
theorem d_L_law_16 : decode c_L_law 16 = .ok (.iconst 0, 1) := by decide +kernel
theorem d_L_law_17 : decode c_L_law 17 = .ok (.istore_n 3, 1) := by decide +kernel
theorem d_L_law_18 : decode c_L_law 18 = .ok (.iload_n 3, 1) := by decide +kernel
theorem d_L_law_19 : decode c_L_law 19 = .ok (.aload_n 0, 1) := by decide +kernel
theorem d_L_law_20 : decode c_L_law 20 = .ok (.arraylength, 1) := by decide +kernel
theorem d_L_law_21 : decode c_L_law 21 = .ok (.iconst 4, 1) := by decide +kernel
theorem d_L_law_22 : decode c_L_law 22 = .ok (.isub, 1) := by decide +kernel
theorem d_L_law_23 : decode c_L_law 23 = .ok (.if_icmp .gt 763, 3) := by decide +kernel
theorem d_L_law_26 : decode c_L_law 26 = .ok (.aload_n 0, 1) := by decide +kernel
theorem d_L_law_27 : decode c_L_law 27 = .ok (.iload_n 3, 1) := by decide +kernel
theorem d_L_law_28 : decode c_L_law 28 = .ok (.iaload, 1) := by decide +kernel
theorem d_L_law_29 : decode c_L_law 29 = .ok (.bipush 31, 2) := by decide +kernel
theorem d_L_law_31 : decode c_L_law 31 = .ok (.iand, 1) := by decide +kernel
theorem d_L_law_32 : decode c_L_law 32 = .ok (.tableswitch 748 0 19 #[96, 155, 198, 241, 264, 307, 356, 379, 402, 435, 468, 501, 524, 557, 580, 613, 656, 679, 702, 725], 96) := by decide +kernel
theorem d_L_law_128 : decode c_L_law 128 = .ok (.aload_n 1, 1) := by decide +kernel
theorem d_L_law_129 : decode c_L_law 129 = .ok (.aload_n 0, 1) := by decide +kernel
theorem d_L_law_130 : decode c_L_law 130 = .ok (.iload_n 3, 1) := by decide +kernel
theorem d_L_law_131 : decode c_L_law 131 = .ok (.iconst 1, 1) := by decide +kernel
theorem d_L_law_132 : decode c_L_law 132 = .ok (.iadd, 1) := by decide +kernel
theorem d_L_law_133 : decode c_L_law 133 = .ok (.iaload, 1) := by decide +kernel
theorem d_L_law_134 : decode c_L_law 134 = .ok (.aload_n 0, 1) := by decide +kernel
theorem d_L_law_135 : decode c_L_law 135 = .ok (.iload_n 3, 1) := by decide +kernel
theorem d_L_law_136 : decode c_L_law 136 = .ok (.iconst 2, 1) := by decide +kernel
theorem d_L_law_137 : decode c_L_law 137 = .ok (.iadd, 1) := by decide +kernel
theorem d_L_law_138 : decode c_L_law 138 = .ok (.iaload, 1) := by decide +kernel
theorem d_L_law_139 : decode c_L_law 139 = .ok (.ifCond .eq 7, 3) := by decide +kernel
theorem d_L_law_142 : decode c_L_law 142 = .ok (.iconst 1, 1) := by decide +kernel
theorem d_L_law_143 : decode c_L_law 143 = .ok (.goto 4, 3) := by decide +kernel
theorem d_L_law_146 : decode c_L_law 146 = .ok (.iconst 0, 1) := by decide +kernel
theorem d_L_law_147 : decode c_L_law 147 = .ok (.aload_n 0, 1) := by decide +kernel
theorem d_L_law_148 : decode c_L_law 148 = .ok (.iload_n 3, 1) := by decide +kernel
theorem d_L_law_149 : decode c_L_law 149 = .ok (.iconst 3, 1) := by decide +kernel
theorem d_L_law_150 : decode c_L_law 150 = .ok (.iadd, 1) := by decide +kernel
theorem d_L_law_151 : decode c_L_law 151 = .ok (.iaload, 1) := by decide +kernel
theorem d_L_law_152 : decode c_L_law 152 = .ok (.invokevirtual 13, 3) := by decide +kernel
theorem d_L_law_155 : decode c_L_law 155 = .ok (.aload_n 2, 1) := by decide +kernel
theorem d_L_law_156 : decode c_L_law 156 = .ok (.aload_n 0, 1) := by decide +kernel
theorem d_L_law_157 : decode c_L_law 157 = .ok (.iload_n 3, 1) := by decide +kernel
theorem d_L_law_158 : decode c_L_law 158 = .ok (.iconst 1, 1) := by decide +kernel
theorem d_L_law_159 : decode c_L_law 159 = .ok (.iadd, 1) := by decide +kernel
theorem d_L_law_160 : decode c_L_law 160 = .ok (.iaload, 1) := by decide +kernel
theorem d_L_law_161 : decode c_L_law 161 = .ok (.aload_n 0, 1) := by decide +kernel
theorem d_L_law_162 : decode c_L_law 162 = .ok (.iload_n 3, 1) := by decide +kernel
theorem d_L_law_163 : decode c_L_law 163 = .ok (.iconst 2, 1) := by decide +kernel
theorem d_L_law_164 : decode c_L_law 164 = .ok (.iadd, 1) := by decide +kernel
theorem d_L_law_165 : decode c_L_law 165 = .ok (.iaload, 1) := by decide +kernel
theorem d_L_law_166 : decode c_L_law 166 = .ok (.ifCond .eq 7, 3) := by decide +kernel
theorem d_L_law_169 : decode c_L_law 169 = .ok (.iconst 1, 1) := by decide +kernel
theorem d_L_law_170 : decode c_L_law 170 = .ok (.goto 4, 3) := by decide +kernel
theorem d_L_law_173 : decode c_L_law 173 = .ok (.iconst 0, 1) := by decide +kernel
theorem d_L_law_174 : decode c_L_law 174 = .ok (.aload_n 0, 1) := by decide +kernel
theorem d_L_law_175 : decode c_L_law 175 = .ok (.iload_n 3, 1) := by decide +kernel
theorem d_L_law_176 : decode c_L_law 176 = .ok (.iconst 3, 1) := by decide +kernel
theorem d_L_law_177 : decode c_L_law 177 = .ok (.iadd, 1) := by decide +kernel
theorem d_L_law_178 : decode c_L_law 178 = .ok (.iaload, 1) := by decide +kernel
theorem d_L_law_179 : decode c_L_law 179 = .ok (.invokevirtual 17, 3) := by decide +kernel
theorem d_L_law_182 : decode c_L_law 182 = .ok (.if_icmp .eq 598, 3) := by decide +kernel
theorem d_L_law_185 : decode c_L_law 185 = .ok (.iconst 0, 1) := by decide +kernel
theorem d_L_law_186 : decode c_L_law 186 = .ok (.ireturn, 1) := by decide +kernel
theorem d_L_law_187 : decode c_L_law 187 = .ok (.aload_n 1, 1) := by decide +kernel
theorem d_L_law_188 : decode c_L_law 188 = .ok (.aload_n 0, 1) := by decide +kernel
theorem d_L_law_189 : decode c_L_law 189 = .ok (.iload_n 3, 1) := by decide +kernel
theorem d_L_law_190 : decode c_L_law 190 = .ok (.iconst 1, 1) := by decide +kernel
theorem d_L_law_191 : decode c_L_law 191 = .ok (.iadd, 1) := by decide +kernel
theorem d_L_law_192 : decode c_L_law 192 = .ok (.iaload, 1) := by decide +kernel
theorem d_L_law_193 : decode c_L_law 193 = .ok (.aload_n 0, 1) := by decide +kernel
theorem d_L_law_194 : decode c_L_law 194 = .ok (.iload_n 3, 1) := by decide +kernel
theorem d_L_law_195 : decode c_L_law 195 = .ok (.iconst 2, 1) := by decide +kernel
theorem d_L_law_196 : decode c_L_law 196 = .ok (.iadd, 1) := by decide +kernel
theorem d_L_law_197 : decode c_L_law 197 = .ok (.iaload, 1) := by decide +kernel
theorem d_L_law_198 : decode c_L_law 198 = .ok (.aload_n 0, 1) := by decide +kernel
theorem d_L_law_199 : decode c_L_law 199 = .ok (.iload_n 3, 1) := by decide +kernel
theorem d_L_law_200 : decode c_L_law 200 = .ok (.iconst 3, 1) := by decide +kernel
theorem d_L_law_201 : decode c_L_law 201 = .ok (.iadd, 1) := by decide +kernel
theorem d_L_law_202 : decode c_L_law 202 = .ok (.iaload, 1) := by decide +kernel
theorem d_L_law_203 : decode c_L_law 203 = .ok (.invokevirtual 18, 3) := by decide +kernel
theorem d_L_law_206 : decode c_L_law 206 = .ok (.aload_n 2, 1) := by decide +kernel
theorem d_L_law_207 : decode c_L_law 207 = .ok (.aload_n 0, 1) := by decide +kernel
theorem d_L_law_208 : decode c_L_law 208 = .ok (.iload_n 3, 1) := by decide +kernel
theorem d_L_law_209 : decode c_L_law 209 = .ok (.iconst 1, 1) := by decide +kernel
theorem d_L_law_210 : decode c_L_law 210 = .ok (.iadd, 1) := by decide +kernel
theorem d_L_law_211 : decode c_L_law 211 = .ok (.iaload, 1) := by decide +kernel
theorem d_L_law_212 : decode c_L_law 212 = .ok (.aload_n 0, 1) := by decide +kernel
theorem d_L_law_213 : decode c_L_law 213 = .ok (.iload_n 3, 1) := by decide +kernel
theorem d_L_law_214 : decode c_L_law 214 = .ok (.iconst 2, 1) := by decide +kernel
theorem d_L_law_215 : decode c_L_law 215 = .ok (.iadd, 1) := by decide +kernel
theorem d_L_law_216 : decode c_L_law 216 = .ok (.iaload, 1) := by decide +kernel
theorem d_L_law_217 : decode c_L_law 217 = .ok (.aload_n 0, 1) := by decide +kernel
theorem d_L_law_218 : decode c_L_law 218 = .ok (.iload_n 3, 1) := by decide +kernel
theorem d_L_law_219 : decode c_L_law 219 = .ok (.iconst 3, 1) := by decide +kernel
theorem d_L_law_220 : decode c_L_law 220 = .ok (.iadd, 1) := by decide +kernel
theorem d_L_law_221 : decode c_L_law 221 = .ok (.iaload, 1) := by decide +kernel
theorem d_L_law_222 : decode c_L_law 222 = .ok (.invokevirtual 22, 3) := by decide +kernel
theorem d_L_law_225 : decode c_L_law 225 = .ok (.if_icmp .eq 555, 3) := by decide +kernel
theorem d_L_law_228 : decode c_L_law 228 = .ok (.iconst 0, 1) := by decide +kernel
theorem d_L_law_229 : decode c_L_law 229 = .ok (.ireturn, 1) := by decide +kernel
theorem d_L_law_230 : decode c_L_law 230 = .ok (.aload_n 1, 1) := by decide +kernel
theorem d_L_law_231 : decode c_L_law 231 = .ok (.aload_n 0, 1) := by decide +kernel
theorem d_L_law_232 : decode c_L_law 232 = .ok (.iload_n 3, 1) := by decide +kernel
theorem d_L_law_233 : decode c_L_law 233 = .ok (.iconst 1, 1) := by decide +kernel
theorem d_L_law_234 : decode c_L_law 234 = .ok (.iadd, 1) := by decide +kernel
theorem d_L_law_235 : decode c_L_law 235 = .ok (.iaload, 1) := by decide +kernel
theorem d_L_law_236 : decode c_L_law 236 = .ok (.aload_n 0, 1) := by decide +kernel
theorem d_L_law_237 : decode c_L_law 237 = .ok (.iload_n 3, 1) := by decide +kernel
theorem d_L_law_238 : decode c_L_law 238 = .ok (.iconst 2, 1) := by decide +kernel
theorem d_L_law_239 : decode c_L_law 239 = .ok (.iadd, 1) := by decide +kernel
theorem d_L_law_240 : decode c_L_law 240 = .ok (.iaload, 1) := by decide +kernel
theorem d_L_law_241 : decode c_L_law 241 = .ok (.aload_n 0, 1) := by decide +kernel
theorem d_L_law_242 : decode c_L_law 242 = .ok (.iload_n 3, 1) := by decide +kernel
theorem d_L_law_243 : decode c_L_law 243 = .ok (.iconst 3, 1) := by decide +kernel
theorem d_L_law_244 : decode c_L_law 244 = .ok (.iadd, 1) := by decide +kernel
theorem d_L_law_245 : decode c_L_law 245 = .ok (.iaload, 1) := by decide +kernel
theorem d_L_law_246 : decode c_L_law 246 = .ok (.invokevirtual 23, 3) := by decide +kernel
theorem d_L_law_249 : decode c_L_law 249 = .ok (.aload_n 2, 1) := by decide +kernel
theorem d_L_law_250 : decode c_L_law 250 = .ok (.aload_n 0, 1) := by decide +kernel
theorem d_L_law_251 : decode c_L_law 251 = .ok (.iload_n 3, 1) := by decide +kernel
theorem d_L_law_252 : decode c_L_law 252 = .ok (.iconst 1, 1) := by decide +kernel
theorem d_L_law_253 : decode c_L_law 253 = .ok (.iadd, 1) := by decide +kernel
theorem d_L_law_254 : decode c_L_law 254 = .ok (.iaload, 1) := by decide +kernel
theorem d_L_law_255 : decode c_L_law 255 = .ok (.aload_n 0, 1) := by decide +kernel
theorem d_L_law_256 : decode c_L_law 256 = .ok (.iload_n 3, 1) := by decide +kernel
theorem d_L_law_257 : decode c_L_law 257 = .ok (.iconst 2, 1) := by decide +kernel
theorem d_L_law_258 : decode c_L_law 258 = .ok (.iadd, 1) := by decide +kernel
theorem d_L_law_259 : decode c_L_law 259 = .ok (.iaload, 1) := by decide +kernel
theorem d_L_law_260 : decode c_L_law 260 = .ok (.aload_n 0, 1) := by decide +kernel
theorem d_L_law_261 : decode c_L_law 261 = .ok (.iload_n 3, 1) := by decide +kernel
theorem d_L_law_262 : decode c_L_law 262 = .ok (.iconst 3, 1) := by decide +kernel
theorem d_L_law_263 : decode c_L_law 263 = .ok (.iadd, 1) := by decide +kernel
theorem d_L_law_264 : decode c_L_law 264 = .ok (.iaload, 1) := by decide +kernel
theorem d_L_law_265 : decode c_L_law 265 = .ok (.invokevirtual 26, 3) := by decide +kernel
theorem d_L_law_268 : decode c_L_law 268 = .ok (.if_icmp .eq 512, 3) := by decide +kernel
theorem d_L_law_271 : decode c_L_law 271 = .ok (.iconst 0, 1) := by decide +kernel
theorem d_L_law_272 : decode c_L_law 272 = .ok (.ireturn, 1) := by decide +kernel
theorem d_L_law_273 : decode c_L_law 273 = .ok (.aload_n 1, 1) := by decide +kernel
theorem d_L_law_274 : decode c_L_law 274 = .ok (.aload_n 0, 1) := by decide +kernel
theorem d_L_law_275 : decode c_L_law 275 = .ok (.iload_n 3, 1) := by decide +kernel
theorem d_L_law_276 : decode c_L_law 276 = .ok (.iconst 1, 1) := by decide +kernel
theorem d_L_law_277 : decode c_L_law 277 = .ok (.iadd, 1) := by decide +kernel
theorem d_L_law_278 : decode c_L_law 278 = .ok (.iaload, 1) := by decide +kernel
theorem d_L_law_279 : decode c_L_law 279 = .ok (.invokevirtual 27, 3) := by decide +kernel
theorem d_L_law_282 : decode c_L_law 282 = .ok (.aload_n 2, 1) := by decide +kernel
theorem d_L_law_283 : decode c_L_law 283 = .ok (.aload_n 0, 1) := by decide +kernel
theorem d_L_law_284 : decode c_L_law 284 = .ok (.iload_n 3, 1) := by decide +kernel
theorem d_L_law_285 : decode c_L_law 285 = .ok (.iconst 1, 1) := by decide +kernel
theorem d_L_law_286 : decode c_L_law 286 = .ok (.iadd, 1) := by decide +kernel
theorem d_L_law_287 : decode c_L_law 287 = .ok (.iaload, 1) := by decide +kernel
theorem d_L_law_288 : decode c_L_law 288 = .ok (.invokevirtual 31, 3) := by decide +kernel
theorem d_L_law_291 : decode c_L_law 291 = .ok (.if_icmp .eq 489, 3) := by decide +kernel
theorem d_L_law_294 : decode c_L_law 294 = .ok (.iconst 0, 1) := by decide +kernel
theorem d_L_law_295 : decode c_L_law 295 = .ok (.ireturn, 1) := by decide +kernel
theorem d_L_law_296 : decode c_L_law 296 = .ok (.aload_n 1, 1) := by decide +kernel
theorem d_L_law_297 : decode c_L_law 297 = .ok (.aload_n 0, 1) := by decide +kernel
theorem d_L_law_298 : decode c_L_law 298 = .ok (.iload_n 3, 1) := by decide +kernel
theorem d_L_law_299 : decode c_L_law 299 = .ok (.iconst 1, 1) := by decide +kernel
theorem d_L_law_300 : decode c_L_law 300 = .ok (.iadd, 1) := by decide +kernel
theorem d_L_law_301 : decode c_L_law 301 = .ok (.iaload, 1) := by decide +kernel
theorem d_L_law_302 : decode c_L_law 302 = .ok (.aload_n 0, 1) := by decide +kernel
theorem d_L_law_303 : decode c_L_law 303 = .ok (.iload_n 3, 1) := by decide +kernel
theorem d_L_law_304 : decode c_L_law 304 = .ok (.iconst 2, 1) := by decide +kernel
theorem d_L_law_305 : decode c_L_law 305 = .ok (.iadd, 1) := by decide +kernel
theorem d_L_law_306 : decode c_L_law 306 = .ok (.iaload, 1) := by decide +kernel
theorem d_L_law_307 : decode c_L_law 307 = .ok (.aload_n 0, 1) := by decide +kernel
theorem d_L_law_308 : decode c_L_law 308 = .ok (.iload_n 3, 1) := by decide +kernel
theorem d_L_law_309 : decode c_L_law 309 = .ok (.iconst 3, 1) := by decide +kernel
theorem d_L_law_310 : decode c_L_law 310 = .ok (.iadd, 1) := by decide +kernel
theorem d_L_law_311 : decode c_L_law 311 = .ok (.iaload, 1) := by decide +kernel
theorem d_L_law_312 : decode c_L_law 312 = .ok (.invokevirtual 32, 3) := by decide +kernel
theorem d_L_law_315 : decode c_L_law 315 = .ok (.aload_n 2, 1) := by decide +kernel
theorem d_L_law_316 : decode c_L_law 316 = .ok (.aload_n 0, 1) := by decide +kernel
theorem d_L_law_317 : decode c_L_law 317 = .ok (.iload_n 3, 1) := by decide +kernel
theorem d_L_law_318 : decode c_L_law 318 = .ok (.iconst 1, 1) := by decide +kernel
theorem d_L_law_319 : decode c_L_law 319 = .ok (.iadd, 1) := by decide +kernel
theorem d_L_law_320 : decode c_L_law 320 = .ok (.iaload, 1) := by decide +kernel
theorem d_L_law_321 : decode c_L_law 321 = .ok (.aload_n 0, 1) := by decide +kernel
theorem d_L_law_322 : decode c_L_law 322 = .ok (.iload_n 3, 1) := by decide +kernel
theorem d_L_law_323 : decode c_L_law 323 = .ok (.iconst 2, 1) := by decide +kernel
theorem d_L_law_324 : decode c_L_law 324 = .ok (.iadd, 1) := by decide +kernel
theorem d_L_law_325 : decode c_L_law 325 = .ok (.iaload, 1) := by decide +kernel
theorem d_L_law_326 : decode c_L_law 326 = .ok (.aload_n 0, 1) := by decide +kernel
theorem d_L_law_327 : decode c_L_law 327 = .ok (.iload_n 3, 1) := by decide +kernel
theorem d_L_law_328 : decode c_L_law 328 = .ok (.iconst 3, 1) := by decide +kernel
theorem d_L_law_329 : decode c_L_law 329 = .ok (.iadd, 1) := by decide +kernel
theorem d_L_law_330 : decode c_L_law 330 = .ok (.iaload, 1) := by decide +kernel
theorem d_L_law_331 : decode c_L_law 331 = .ok (.invokevirtual 35, 3) := by decide +kernel
theorem d_L_law_334 : decode c_L_law 334 = .ok (.if_icmp .eq 446, 3) := by decide +kernel
theorem d_L_law_337 : decode c_L_law 337 = .ok (.iconst 0, 1) := by decide +kernel
theorem d_L_law_338 : decode c_L_law 338 = .ok (.ireturn, 1) := by decide +kernel
theorem d_L_law_339 : decode c_L_law 339 = .ok (.aload_n 1, 1) := by decide +kernel
theorem d_L_law_340 : decode c_L_law 340 = .ok (.aload_n 0, 1) := by decide +kernel
theorem d_L_law_341 : decode c_L_law 341 = .ok (.iload_n 3, 1) := by decide +kernel
theorem d_L_law_342 : decode c_L_law 342 = .ok (.iconst 1, 1) := by decide +kernel
theorem d_L_law_343 : decode c_L_law 343 = .ok (.iadd, 1) := by decide +kernel
theorem d_L_law_344 : decode c_L_law 344 = .ok (.iaload, 1) := by decide +kernel
theorem d_L_law_345 : decode c_L_law 345 = .ok (.aload_n 0, 1) := by decide +kernel
theorem d_L_law_346 : decode c_L_law 346 = .ok (.iload_n 3, 1) := by decide +kernel
theorem d_L_law_347 : decode c_L_law 347 = .ok (.iconst 2, 1) := by decide +kernel
theorem d_L_law_348 : decode c_L_law 348 = .ok (.iadd, 1) := by decide +kernel
theorem d_L_law_349 : decode c_L_law 349 = .ok (.iaload, 1) := by decide +kernel
theorem d_L_law_350 : decode c_L_law 350 = .ok (.ifCond .eq 7, 3) := by decide +kernel
theorem d_L_law_353 : decode c_L_law 353 = .ok (.iconst 1, 1) := by decide +kernel
theorem d_L_law_354 : decode c_L_law 354 = .ok (.goto 4, 3) := by decide +kernel
theorem d_L_law_357 : decode c_L_law 357 = .ok (.iconst 0, 1) := by decide +kernel
theorem d_L_law_358 : decode c_L_law 358 = .ok (.invokevirtual 36, 3) := by decide +kernel
theorem d_L_law_361 : decode c_L_law 361 = .ok (.aload_n 2, 1) := by decide +kernel
theorem d_L_law_362 : decode c_L_law 362 = .ok (.aload_n 0, 1) := by decide +kernel
theorem d_L_law_363 : decode c_L_law 363 = .ok (.iload_n 3, 1) := by decide +kernel
theorem d_L_law_364 : decode c_L_law 364 = .ok (.iconst 1, 1) := by decide +kernel
theorem d_L_law_365 : decode c_L_law 365 = .ok (.iadd, 1) := by decide +kernel
theorem d_L_law_366 : decode c_L_law 366 = .ok (.iaload, 1) := by decide +kernel
theorem d_L_law_367 : decode c_L_law 367 = .ok (.aload_n 0, 1) := by decide +kernel
theorem d_L_law_368 : decode c_L_law 368 = .ok (.iload_n 3, 1) := by decide +kernel
theorem d_L_law_369 : decode c_L_law 369 = .ok (.iconst 2, 1) := by decide +kernel
theorem d_L_law_370 : decode c_L_law 370 = .ok (.iadd, 1) := by decide +kernel
theorem d_L_law_371 : decode c_L_law 371 = .ok (.iaload, 1) := by decide +kernel
theorem d_L_law_372 : decode c_L_law 372 = .ok (.ifCond .eq 7, 3) := by decide +kernel
theorem d_L_law_375 : decode c_L_law 375 = .ok (.iconst 1, 1) := by decide +kernel
theorem d_L_law_376 : decode c_L_law 376 = .ok (.goto 4, 3) := by decide +kernel
theorem d_L_law_379 : decode c_L_law 379 = .ok (.iconst 0, 1) := by decide +kernel
theorem d_L_law_380 : decode c_L_law 380 = .ok (.invokevirtual 40, 3) := by decide +kernel
theorem d_L_law_383 : decode c_L_law 383 = .ok (.if_icmp .eq 397, 3) := by decide +kernel
theorem d_L_law_386 : decode c_L_law 386 = .ok (.iconst 0, 1) := by decide +kernel
theorem d_L_law_387 : decode c_L_law 387 = .ok (.ireturn, 1) := by decide +kernel
theorem d_L_law_388 : decode c_L_law 388 = .ok (.aload_n 1, 1) := by decide +kernel
theorem d_L_law_389 : decode c_L_law 389 = .ok (.aload_n 0, 1) := by decide +kernel
theorem d_L_law_390 : decode c_L_law 390 = .ok (.iload_n 3, 1) := by decide +kernel
