theorem d_C_init_0 : decode c_C_init 0 = .ok (.aload_n 0, 1) := by decide +kernel
theorem d_C_init_1 : decode c_C_init 1 = .ok (.invokespecial 1, 3) := by decide +kernel
theorem d_C_init_4 : decode c_C_init 4 = .ok (.aload_n 0, 1) := by decide +kernel
theorem d_C_init_5 : decode c_C_init 5 = .ok (.bipush 16, 2) := by decide +kernel
theorem d_C_init_7 : decode c_C_init 7 = .ok (.anewarray 9, 3) := by decide +kernel
theorem d_C_init_10 : decode c_C_init 10 = .ok (.putfield 11, 3) := by decide +kernel
theorem d_C_init_13 : decode c_C_init 13 = .ok (.aload_n 0, 1) := by decide +kernel
theorem d_C_init_14 : decode c_C_init 14 = .ok (.bipush 30, 2) := by decide +kernel
theorem d_C_init_16 : decode c_C_init 16 = .ok (.anewarray 15, 3) := by decide +kernel
theorem d_C_init_19 : decode c_C_init 19 = .ok (.putfield 17, 3) := by decide +kernel
theorem d_C_init_22 : decode c_C_init 22 = .ok (.aload_n 0, 1) := by decide +kernel
theorem d_C_init_23 : decode c_C_init 23 = .ok (.iconst 3, 1) := by decide +kernel
theorem d_C_init_24 : decode c_C_init 24 = .ok (.newarray .int, 2) := by decide +kernel
theorem d_C_init_26 : decode c_C_init 26 = .ok (.putfield 21, 3) := by decide +kernel
theorem d_C_init_29 : decode c_C_init 29 = .ok (.aload_n 0, 1) := by decide +kernel
theorem d_C_init_30 : decode c_C_init 30 = .ok (.new 25, 3) := by decide +kernel
theorem d_C_init_33 : decode c_C_init 33 = .ok (.dup, 1) := by decide +kernel
theorem d_C_init_34 : decode c_C_init 34 = .ok (.invokespecial 27, 3) := by decide +kernel
theorem d_C_init_37 : decode c_C_init 37 = .ok (.putfield 28, 3) := by decide +kernel
theorem d_C_init_40 : decode c_C_init 40 = .ok (.aload_n 0, 1) := by decide +kernel
theorem d_C_init_41 : decode c_C_init 41 = .ok (.getfield 21, 3) := by decide +kernel
theorem d_C_init_44 : decode c_C_init 44 = .ok (.iconst (-1), 1) := by decide +kernel
theorem d_C_init_45 : decode c_C_init 45 = .ok (.invokestatic 32, 3) := by decide +kernel
theorem d_C_init_48 : decode c_C_init 48 = .ok (.return_, 1) := by decide +kernel
theorem d_C_release_0 : decode c_C_release 0 = .ok (.aload_n 0, 1) := by decide +kernel
theorem d_C_release_1 : decode c_C_release 1 = .ok (.getfield 38, 3) := by decide +kernel
theorem d_C_release_4 : decode c_C_release 4 = .ok (.bipush 16, 2) := by decide +kernel
theorem d_C_release_6 : decode c_C_release 6 = .ok (.if_icmp .ge 20, 3) := by decide +kernel
theorem d_C_release_9 : decode c_C_release 9 = .ok (.iload_n 1, 1) := by decide +kernel
theorem d_C_release_10 : decode c_C_release 10 = .ok (.invokestatic 42, 3) := by decide +kernel
theorem d_C_release_13 : decode c_C_release 13 = .ok (.ifCond .eq 13, 3) := by decide +kernel
theorem d_C_release_16 : decode c_C_release 16 = .ok (.iload_n 3, 1) := by decide +kernel
theorem d_C_release_17 : decode c_C_release 17 = .ok (.iconst 1, 1) := by decide +kernel
theorem d_C_release_18 : decode c_C_release 18 = .ok (.ldc 46, 2) := by decide +kernel
theorem d_C_release_20 : decode c_C_release 20 = .ok (.invokestatic 47, 3) := by decide +kernel
theorem d_C_release_23 : decode c_C_release 23 = .ok (.ifCond .ne 5, 3) := by decide +kernel
theorem d_C_release_26 : decode c_C_release 26 = .ok (.iconst (-1), 1) := by decide +kernel
theorem d_C_release_27 : decode c_C_release 27 = .ok (.ireturn, 1) := by decide +kernel
theorem d_C_release_28 : decode c_C_release 28 = .ok (.aload_n 0, 1) := by decide +kernel
theorem d_C_release_29 : decode c_C_release 29 = .ok (.getfield 11, 3) := by decide +kernel
theorem d_C_release_32 : decode c_C_release 32 = .ok (.aload_n 0, 1) := by decide +kernel
theorem d_C_release_33 : decode c_C_release 33 = .ok (.getfield 38, 3) := by decide +kernel
theorem d_C_release_36 : decode c_C_release 36 = .ok (.new 9, 3) := by decide +kernel
theorem d_C_release_39 : decode c_C_release 39 = .ok (.dup, 1) := by decide +kernel
theorem d_C_release_40 : decode c_C_release 40 = .ok (.iload_n 1, 1) := by decide +kernel
theorem d_C_release_41 : decode c_C_release 41 = .ok (.iload_n 2, 1) := by decide +kernel
theorem d_C_release_42 : decode c_C_release 42 = .ok (.iload_n 3, 1) := by decide +kernel
theorem d_C_release_43 : decode c_C_release 43 = .ok (.invokespecial 51, 3) := by decide +kernel
theorem d_C_release_46 : decode c_C_release 46 = .ok (.aastore, 1) := by decide +kernel
theorem d_C_release_47 : decode c_C_release 47 = .ok (.aload_n 0, 1) := by decide +kernel
theorem d_C_release_48 : decode c_C_release 48 = .ok (.dup, 1) := by decide +kernel
theorem d_C_release_49 : decode c_C_release 49 = .ok (.getfield 38, 3) := by decide +kernel
theorem d_C_release_52 : decode c_C_release 52 = .ok (.iconst 1, 1) := by decide +kernel
theorem d_C_release_53 : decode c_C_release 53 = .ok (.iadd, 1) := by decide +kernel
theorem d_C_release_54 : decode c_C_release 54 = .ok (.putfield 38, 3) := by decide +kernel
theorem d_C_release_57 : decode c_C_release 57 = .ok (.aload_n 0, 1) := by decide +kernel
theorem d_C_release_58 : decode c_C_release 58 = .ok (.getfield 38, 3) := by decide +kernel
theorem d_C_release_61 : decode c_C_release 61 = .ok (.iconst 1, 1) := by decide +kernel
theorem d_C_release_62 : decode c_C_release 62 = .ok (.isub, 1) := by decide +kernel
theorem d_C_release_63 : decode c_C_release 63 = .ok (.ireturn, 1) := by decide +kernel
theorem d_C_stage_0 : decode c_C_stage 0 = .ok (.aload_n 0, 1) := by decide +kernel
theorem d_C_stage_1 : decode c_C_stage 1 = .ok (.iload_n 1, 1) := by decide +kernel
theorem d_C_stage_2 : decode c_C_stage 2 = .ok (.invokevirtual 54, 3) := by decide +kernel
theorem d_C_stage_5 : decode c_C_stage 5 = .ok (.astore 4, 2) := by decide +kernel
theorem d_C_stage_7 : decode c_C_stage 7 = .ok (.aload 4, 2) := by decide +kernel
theorem d_C_stage_9 : decode c_C_stage 9 = .ok (.ifnull 17, 3) := by decide +kernel
theorem d_C_stage_12 : decode c_C_stage 12 = .ok (.aload 4, 2) := by decide +kernel
theorem d_C_stage_14 : decode c_C_stage 14 = .ok (.iload_n 2, 1) := by decide +kernel
theorem d_C_stage_15 : decode c_C_stage 15 = .ok (.iload_n 3, 1) := by decide +kernel
theorem d_C_stage_16 : decode c_C_stage 16 = .ok (.invokevirtual 58, 3) := by decide +kernel
theorem d_C_stage_19 : decode c_C_stage 19 = .ok (.ifCond .eq 7, 3) := by decide +kernel
theorem d_C_stage_22 : decode c_C_stage 22 = .ok (.iconst 1, 1) := by decide +kernel
theorem d_C_stage_23 : decode c_C_stage 23 = .ok (.goto 4, 3) := by decide +kernel
theorem d_C_stage_26 : decode c_C_stage 26 = .ok (.iconst 0, 1) := by decide +kernel
theorem d_C_stage_27 : decode c_C_stage 27 = .ok (.ireturn, 1) := by decide +kernel
theorem d_C_health_0 : decode c_C_health 0 = .ok (.aload_n 0, 1) := by decide +kernel
theorem d_C_health_1 : decode c_C_health 1 = .ok (.iload_n 1, 1) := by decide +kernel
theorem d_C_health_2 : decode c_C_health 2 = .ok (.invokevirtual 54, 3) := by decide +kernel
theorem d_C_health_5 : decode c_C_health 5 = .ok (.astore 4, 2) := by decide +kernel
theorem d_C_health_7 : decode c_C_health 7 = .ok (.aload 4, 2) := by decide +kernel
theorem d_C_health_9 : decode c_C_health 9 = .ok (.ifnull 17, 3) := by decide +kernel
theorem d_C_health_12 : decode c_C_health 12 = .ok (.aload 4, 2) := by decide +kernel
theorem d_C_health_14 : decode c_C_health 14 = .ok (.iload_n 2, 1) := by decide +kernel
theorem d_C_health_15 : decode c_C_health 15 = .ok (.iload_n 3, 1) := by decide +kernel
theorem d_C_health_16 : decode c_C_health 16 = .ok (.invokevirtual 62, 3) := by decide +kernel
theorem d_C_health_19 : decode c_C_health 19 = .ok (.ifCond .eq 7, 3) := by decide +kernel
theorem d_C_health_22 : decode c_C_health 22 = .ok (.iconst 1, 1) := by decide +kernel
theorem d_C_health_23 : decode c_C_health 23 = .ok (.goto 4, 3) := by decide +kernel
theorem d_C_health_26 : decode c_C_health 26 = .ok (.iconst 0, 1) := by decide +kernel
theorem d_C_health_27 : decode c_C_health 27 = .ok (.ireturn, 1) := by decide +kernel
theorem d_C_start_0 : decode c_C_start 0 = .ok (.aload_n 0, 1) := by decide +kernel
theorem d_C_start_1 : decode c_C_start 1 = .ok (.iload_n 1, 1) := by decide +kernel
theorem d_C_start_2 : decode c_C_start 2 = .ok (.invokevirtual 54, 3) := by decide +kernel
theorem d_C_start_5 : decode c_C_start 5 = .ok (.astore_n 2, 1) := by decide +kernel
theorem d_C_start_6 : decode c_C_start 6 = .ok (.aload_n 2, 1) := by decide +kernel
theorem d_C_start_7 : decode c_C_start 7 = .ok (.ifnull 18, 3) := by decide +kernel
theorem d_C_start_10 : decode c_C_start 10 = .ok (.aload_n 2, 1) := by decide +kernel
theorem d_C_start_11 : decode c_C_start 11 = .ok (.aload_n 0, 1) := by decide +kernel
theorem d_C_start_12 : decode c_C_start 12 = .ok (.getfield 65, 3) := by decide +kernel
theorem d_C_start_15 : decode c_C_start 15 = .ok (.invokevirtual 68, 3) := by decide +kernel
theorem d_C_start_18 : decode c_C_start 18 = .ok (.ifCond .eq 7, 3) := by decide +kernel
theorem d_C_start_21 : decode c_C_start 21 = .ok (.iconst 1, 1) := by decide +kernel
theorem d_C_start_22 : decode c_C_start 22 = .ok (.goto 4, 3) := by decide +kernel
theorem d_C_start_25 : decode c_C_start 25 = .ok (.iconst 0, 1) := by decide +kernel
theorem d_C_start_26 : decode c_C_start 26 = .ok (.ireturn, 1) := by decide +kernel
theorem d_C_report_0 : decode c_C_report 0 = .ok (.aload_n 0, 1) := by decide +kernel
theorem d_C_report_1 : decode c_C_report 1 = .ok (.iload_n 1, 1) := by decide +kernel
theorem d_C_report_2 : decode c_C_report 2 = .ok (.invokevirtual 54, 3) := by decide +kernel
theorem d_C_report_5 : decode c_C_report 5 = .ok (.astore 4, 2) := by decide +kernel
theorem d_C_report_7 : decode c_C_report 7 = .ok (.aload 4, 2) := by decide +kernel
theorem d_C_report_9 : decode c_C_report 9 = .ok (.ifnull 17, 3) := by decide +kernel
theorem d_C_report_12 : decode c_C_report 12 = .ok (.aload 4, 2) := by decide +kernel
theorem d_C_report_14 : decode c_C_report 14 = .ok (.iload_n 2, 1) := by decide +kernel
theorem d_C_report_15 : decode c_C_report 15 = .ok (.iload_n 3, 1) := by decide +kernel
theorem d_C_report_16 : decode c_C_report 16 = .ok (.invokevirtual 71, 3) := by decide +kernel
theorem d_C_report_19 : decode c_C_report 19 = .ok (.ifCond .eq 7, 3) := by decide +kernel
theorem d_C_report_22 : decode c_C_report 22 = .ok (.iconst 1, 1) := by decide +kernel
theorem d_C_report_23 : decode c_C_report 23 = .ok (.goto 4, 3) := by decide +kernel
theorem d_C_report_26 : decode c_C_report 26 = .ok (.iconst 0, 1) := by decide +kernel
theorem d_C_report_27 : decode c_C_report 27 = .ok (.ireturn, 1) := by decide +kernel
theorem d_C_hold_0 : decode c_C_hold 0 = .ok (.aload_n 0, 1) := by decide +kernel
theorem d_C_hold_1 : decode c_C_hold 1 = .ok (.iload_n 1, 1) := by decide +kernel
theorem d_C_hold_2 : decode c_C_hold 2 = .ok (.invokevirtual 54, 3) := by decide +kernel
theorem d_C_hold_5 : decode c_C_hold 5 = .ok (.astore_n 3, 1) := by decide +kernel
theorem d_C_hold_6 : decode c_C_hold 6 = .ok (.aload_n 3, 1) := by decide +kernel
theorem d_C_hold_7 : decode c_C_hold 7 = .ok (.ifnonnull 5, 3) := by decide +kernel
theorem d_C_hold_10 : decode c_C_hold 10 = .ok (.iconst 0, 1) := by decide +kernel
theorem d_C_hold_11 : decode c_C_hold 11 = .ok (.ireturn, 1) := by decide +kernel
theorem d_C_hold_12 : decode c_C_hold 12 = .ok (.iload_n 2, 1) := by decide +kernel
theorem d_C_hold_13 : decode c_C_hold 13 = .ok (.ifCond .eq 10, 3) := by decide +kernel
theorem d_C_hold_16 : decode c_C_hold 16 = .ok (.aload_n 3, 1) := by decide +kernel
theorem d_C_hold_17 : decode c_C_hold 17 = .ok (.invokevirtual 74, 3) := by decide +kernel
theorem d_C_hold_20 : decode c_C_hold 20 = .ok (.goto 11, 3) := by decide +kernel
theorem d_C_hold_23 : decode c_C_hold 23 = .ok (.aload_n 3, 1) := by decide +kernel
theorem d_C_hold_24 : decode c_C_hold 24 = .ok (.aload_n 0, 1) := by decide +kernel
theorem d_C_hold_25 : decode c_C_hold 25 = .ok (.getfield 65, 3) := by decide +kernel
theorem d_C_hold_28 : decode c_C_hold 28 = .ok (.invokevirtual 78, 3) := by decide +kernel
theorem d_C_hold_31 : decode c_C_hold 31 = .ok (.ireturn, 1) := by decide +kernel
theorem d_C_revoke_0 : decode c_C_revoke 0 = .ok (.aload_n 0, 1) := by decide +kernel
theorem d_C_revoke_1 : decode c_C_revoke 1 = .ok (.iload_n 1, 1) := by decide +kernel
theorem d_C_revoke_2 : decode c_C_revoke 2 = .ok (.invokevirtual 54, 3) := by decide +kernel
theorem d_C_revoke_5 : decode c_C_revoke 5 = .ok (.astore_n 2, 1) := by decide +kernel
theorem d_C_revoke_6 : decode c_C_revoke 6 = .ok (.aload_n 2, 1) := by decide +kernel
theorem d_C_revoke_7 : decode c_C_revoke 7 = .ok (.ifnull 14, 3) := by decide +kernel
theorem d_C_revoke_10 : decode c_C_revoke 10 = .ok (.aload_n 2, 1) := by decide +kernel
theorem d_C_revoke_11 : decode c_C_revoke 11 = .ok (.invokevirtual 81, 3) := by decide +kernel
theorem d_C_revoke_14 : decode c_C_revoke 14 = .ok (.ifCond .eq 7, 3) := by decide +kernel
theorem d_C_revoke_17 : decode c_C_revoke 17 = .ok (.iconst 1, 1) := by decide +kernel
theorem d_C_revoke_18 : decode c_C_revoke 18 = .ok (.goto 4, 3) := by decide +kernel
theorem d_C_revoke_21 : decode c_C_revoke 21 = .ok (.iconst 0, 1) := by decide +kernel
theorem d_C_revoke_22 : decode c_C_revoke 22 = .ok (.ireturn, 1) := by decide +kernel
theorem d_C_tick_0 : decode c_C_tick 0 = .ok (.iload_n 1, 1) := by decide +kernel
theorem d_C_tick_1 : decode c_C_tick 1 = .ok (.iconst 0, 1) := by decide +kernel
theorem d_C_tick_2 : decode c_C_tick 2 = .ok (.sipush 2000, 3) := by decide +kernel
theorem d_C_tick_5 : decode c_C_tick 5 = .ok (.invokestatic 47, 3) := by decide +kernel
theorem d_C_tick_8 : decode c_C_tick 8 = .ok (.ifCond .ne 5, 3) := by decide +kernel
theorem d_C_tick_11 : decode c_C_tick 11 = .ok (.iconst (-1), 1) := by decide +kernel
theorem d_C_tick_12 : decode c_C_tick 12 = .ok (.ireturn, 1) := by decide +kernel
theorem d_C_tick_13 : decode c_C_tick 13 = .ok (.aload_n 0, 1) := by decide +kernel
theorem d_C_tick_14 : decode c_C_tick 14 = .ok (.getfield 65, 3) := by decide +kernel
theorem d_C_tick_17 : decode c_C_tick 17 = .ok (.iload_n 1, 1) := by decide +kernel
theorem d_C_tick_18 : decode c_C_tick 18 = .ok (.iadd, 1) := by decide +kernel
theorem d_C_tick_19 : decode c_C_tick 19 = .ok (.istore_n 2, 1) := by decide +kernel
theorem d_C_tick_20 : decode c_C_tick 20 = .ok (.iconst 0, 1) := by decide +kernel
theorem d_C_tick_21 : decode c_C_tick 21 = .ok (.istore_n 3, 1) := by decide +kernel
theorem d_C_tick_22 : decode c_C_tick 22 = .ok (.iload_n 3, 1) := by decide +kernel
theorem d_C_tick_23 : decode c_C_tick 23 = .ok (.aload_n 0, 1) := by decide +kernel
theorem d_C_tick_24 : decode c_C_tick 24 = .ok (.getfield 38, 3) := by decide +kernel
theorem d_C_tick_27 : decode c_C_tick 27 = .ok (.if_icmp .ge 31, 3) := by decide +kernel
theorem d_C_tick_30 : decode c_C_tick 30 = .ok (.aload_n 0, 1) := by decide +kernel
theorem d_C_tick_31 : decode c_C_tick 31 = .ok (.iload_n 3, 1) := by decide +kernel
theorem d_C_tick_32 : decode c_C_tick 32 = .ok (.invokevirtual 54, 3) := by decide +kernel
theorem d_C_tick_35 : decode c_C_tick 35 = .ok (.astore 4, 2) := by decide +kernel
theorem d_C_tick_37 : decode c_C_tick 37 = .ok (.aload 4, 2) := by decide +kernel
theorem d_C_tick_39 : decode c_C_tick 39 = .ok (.ifnull 13, 3) := by decide +kernel
theorem d_C_tick_42 : decode c_C_tick 42 = .ok (.aload 4, 2) := by decide +kernel
theorem d_C_tick_44 : decode c_C_tick 44 = .ok (.aload_n 0, 1) := by decide +kernel
theorem d_C_tick_45 : decode c_C_tick 45 = .ok (.getfield 65, 3) := by decide +kernel
theorem d_C_tick_48 : decode c_C_tick 48 = .ok (.iload_n 2, 1) := by decide +kernel
theorem d_C_tick_49 : decode c_C_tick 49 = .ok (.invokevirtual 84, 3) := by decide +kernel
theorem d_C_tick_52 : decode c_C_tick 52 = .ok (.iinc 3 1, 3) := by decide +kernel
theorem d_C_tick_55 : decode c_C_tick 55 = .ok (.goto (-33), 3) := by decide +kernel
theorem d_C_tick_58 : decode c_C_tick 58 = .ok (.aload_n 0, 1) := by decide +kernel
theorem d_C_tick_59 : decode c_C_tick 59 = .ok (.iload_n 2, 1) := by decide +kernel
theorem d_C_tick_60 : decode c_C_tick 60 = .ok (.putfield 65, 3) := by decide +kernel
theorem d_C_tick_63 : decode c_C_tick 63 = .ok (.aload_n 0, 1) := by decide +kernel
theorem d_C_tick_64 : decode c_C_tick 64 = .ok (.getfield 65, 3) := by decide +kernel
theorem d_C_tick_67 : decode c_C_tick 67 = .ok (.ireturn, 1) := by decide +kernel
theorem d_C_about_0 : decode c_C_about 0 = .ok (.aload_n 0, 1) := by decide +kernel
theorem d_C_about_1 : decode c_C_about 1 = .ok (.iload_n 1, 1) := by decide +kernel
theorem d_C_about_2 : decode c_C_about 2 = .ok (.invokevirtual 54, 3) := by decide +kernel
theorem d_C_about_5 : decode c_C_about 5 = .ok (.astore_n 3, 1) := by decide +kernel
theorem d_C_about_6 : decode c_C_about 6 = .ok (.aload_n 3, 1) := by decide +kernel
theorem d_C_about_7 : decode c_C_about 7 = .ok (.ifnonnull 5, 3) := by decide +kernel
theorem d_C_about_10 : decode c_C_about 10 = .ok (.iconst (-1), 1) := by decide +kernel
theorem d_C_about_11 : decode c_C_about 11 = .ok (.ireturn, 1) := by decide +kernel
theorem d_C_about_12 : decode c_C_about 12 = .ok (.iload_n 2, 1) := by decide +kernel
theorem d_C_about_13 : decode c_C_about 13 = .ok (.tableswitch 60 0 4 #[35, 40, 45, 50, 55], 35) := by decide +kernel
theorem d_C_about_48 : decode c_C_about 48 = .ok (.aload_n 3, 1) := by decide +kernel
theorem d_C_about_49 : decode c_C_about 49 = .ok (.getfield 88, 3) := by decide +kernel
theorem d_C_about_52 : decode c_C_about 52 = .ok (.ireturn, 1) := by decide +kernel
theorem d_C_about_53 : decode c_C_about 53 = .ok (.aload_n 3, 1) := by decide +kernel
theorem d_C_about_54 : decode c_C_about 54 = .ok (.invokevirtual 91, 3) := by decide +kernel
theorem d_C_about_57 : decode c_C_about 57 = .ok (.ireturn, 1) := by decide +kernel
theorem d_C_about_58 : decode c_C_about 58 = .ok (.aload_n 3, 1) := by decide +kernel
theorem d_C_about_59 : decode c_C_about 59 = .ok (.getfield 95, 3) := by decide +kernel
theorem d_C_about_62 : decode c_C_about 62 = .ok (.ireturn, 1) := by decide +kernel
theorem d_C_about_63 : decode c_C_about 63 = .ok (.aload_n 3, 1) := by decide +kernel
theorem d_C_about_64 : decode c_C_about 64 = .ok (.invokevirtual 98, 3) := by decide +kernel
theorem d_C_about_67 : decode c_C_about 67 = .ok (.ireturn, 1) := by decide +kernel
theorem d_C_about_68 : decode c_C_about 68 = .ok (.aload_n 3, 1) := by decide +kernel
theorem d_C_about_69 : decode c_C_about 69 = .ok (.invokevirtual 101, 3) := by decide +kernel
theorem d_C_about_72 : decode c_C_about 72 = .ok (.ireturn, 1) := by decide +kernel
theorem d_C_about_73 : decode c_C_about 73 = .ok (.iconst (-1), 1) := by decide +kernel
theorem d_C_about_74 : decode c_C_about 74 = .ok (.ireturn, 1) := by decide +kernel
theorem d_C_back_0 : decode c_C_back 0 = .ok (.iload_n 1, 1) := by decide +kernel
theorem d_C_back_1 : decode c_C_back 1 = .ok (.invokestatic 42, 3) := by decide +kernel
theorem d_C_back_4 : decode c_C_back 4 = .ok (.ifCond .ne 5, 3) := by decide +kernel
theorem d_C_back_7 : decode c_C_back 7 = .ok (.iconst 0, 1) := by decide +kernel
theorem d_C_back_8 : decode c_C_back 8 = .ok (.ireturn, 1) := by decide +kernel
theorem d_C_back_9 : decode c_C_back 9 = .ok (.iload_n 2, 1) := by decide +kernel
theorem d_C_back_10 : decode c_C_back 10 = .ok (.iconst (-1), 1) := by decide +kernel
theorem d_C_back_11 : decode c_C_back 11 = .ok (.if_icmp .eq 23, 3) := by decide +kernel
theorem d_C_back_14 : decode c_C_back 14 = .ok (.aload_n 0, 1) := by decide +kernel
theorem d_C_back_15 : decode c_C_back 15 = .ok (.iload_n 2, 1) := by decide +kernel
theorem d_C_back_16 : decode c_C_back 16 = .ok (.invokevirtual 54, 3) := by decide +kernel
theorem d_C_back_19 : decode c_C_back 19 = .ok (.astore_n 3, 1) := by decide +kernel
theorem d_C_back_20 : decode c_C_back 20 = .ok (.aload_n 3, 1) := by decide +kernel
theorem d_C_back_21 : decode c_C_back 21 = .ok (.ifnull 11, 3) := by decide +kernel
theorem d_C_back_24 : decode c_C_back 24 = .ok (.aload_n 3, 1) := by decide +kernel
theorem d_C_back_25 : decode c_C_back 25 = .ok (.getfield 104, 3) := by decide +kernel
theorem d_C_back_28 : decode c_C_back 28 = .ok (.iload_n 1, 1) := by decide +kernel
theorem d_C_back_29 : decode c_C_back 29 = .ok (.if_icmp .eq 5, 3) := by decide +kernel
theorem d_C_back_32 : decode c_C_back 32 = .ok (.iconst 0, 1) := by decide +kernel
theorem d_C_back_33 : decode c_C_back 33 = .ok (.ireturn, 1) := by decide +kernel
theorem d_C_back_34 : decode c_C_back 34 = .ok (.aload_n 0, 1) := by decide +kernel
theorem d_C_back_35 : decode c_C_back 35 = .ok (.getfield 21, 3) := by decide +kernel
theorem d_C_back_38 : decode c_C_back 38 = .ok (.iload_n 1, 1) := by decide +kernel
theorem d_C_back_39 : decode c_C_back 39 = .ok (.iload_n 2, 1) := by decide +kernel
theorem d_C_back_40 : decode c_C_back 40 = .ok (.iastore, 1) := by decide +kernel
theorem d_C_back_41 : decode c_C_back 41 = .ok (.iconst 1, 1) := by decide +kernel
theorem d_C_back_42 : decode c_C_back 42 = .ok (.ireturn, 1) := by decide +kernel
theorem d_C_machine_0 : decode c_C_machine 0 = .ok (.aload_n 0, 1) := by decide +kernel
theorem d_C_machine_1 : decode c_C_machine 1 = .ok (.getfield 107, 3) := by decide +kernel
theorem d_C_machine_4 : decode c_C_machine 4 = .ok (.bipush 30, 2) := by decide +kernel
theorem d_C_machine_6 : decode c_C_machine 6 = .ok (.if_icmp .ge 19, 3) := by decide +kernel
theorem d_C_machine_9 : decode c_C_machine 9 = .ok (.iload_n 1, 1) := by decide +kernel
theorem d_C_machine_10 : decode c_C_machine 10 = .ok (.invokestatic 42, 3) := by decide +kernel
theorem d_C_machine_13 : decode c_C_machine 13 = .ok (.ifCond .eq 12, 3) := by decide +kernel
theorem d_C_machine_16 : decode c_C_machine 16 = .ok (.iload_n 2, 1) := by decide +kernel
theorem d_C_machine_17 : decode c_C_machine 17 = .ok (.iconst 0, 1) := by decide +kernel
theorem d_C_machine_18 : decode c_C_machine 18 = .ok (.iconst 3, 1) := by decide +kernel
theorem d_C_machine_19 : decode c_C_machine 19 = .ok (.invokestatic 47, 3) := by decide +kernel
theorem d_C_machine_22 : decode c_C_machine 22 = .ok (.ifCond .ne 5, 3) := by decide +kernel
theorem d_C_machine_25 : decode c_C_machine 25 = .ok (.iconst (-1), 1) := by decide +kernel
theorem d_C_machine_26 : decode c_C_machine 26 = .ok (.ireturn, 1) := by decide +kernel
theorem d_C_machine_27 : decode c_C_machine 27 = .ok (.aload_n 0, 1) := by decide +kernel
theorem d_C_machine_28 : decode c_C_machine 28 = .ok (.getfield 17, 3) := by decide +kernel
theorem d_C_machine_31 : decode c_C_machine 31 = .ok (.aload_n 0, 1) := by decide +kernel
theorem d_C_machine_32 : decode c_C_machine 32 = .ok (.getfield 107, 3) := by decide +kernel
theorem d_C_machine_35 : decode c_C_machine 35 = .ok (.new 15, 3) := by decide +kernel
theorem d_C_machine_38 : decode c_C_machine 38 = .ok (.dup, 1) := by decide +kernel
theorem d_C_machine_39 : decode c_C_machine 39 = .ok (.iload_n 1, 1) := by decide +kernel
theorem d_C_machine_40 : decode c_C_machine 40 = .ok (.iload_n 2, 1) := by decide +kernel
theorem d_C_machine_41 : decode c_C_machine 41 = .ok (.aload_n 0, 1) := by decide +kernel
theorem d_C_machine_42 : decode c_C_machine 42 = .ok (.getfield 107, 3) := by decide +kernel
theorem d_C_machine_45 : decode c_C_machine 45 = .ok (.invokestatic 110, 3) := by decide +kernel
theorem d_C_machine_48 : decode c_C_machine 48 = .ok (.invokespecial 114, 3) := by decide +kernel
theorem d_C_machine_51 : decode c_C_machine 51 = .ok (.aastore, 1) := by decide +kernel
theorem d_C_machine_52 : decode c_C_machine 52 = .ok (.aload_n 0, 1) := by decide +kernel
theorem d_C_machine_53 : decode c_C_machine 53 = .ok (.dup, 1) := by decide +kernel
theorem d_C_machine_54 : decode c_C_machine 54 = .ok (.getfield 107, 3) := by decide +kernel
theorem d_C_machine_57 : decode c_C_machine 57 = .ok (.iconst 1, 1) := by decide +kernel
theorem d_C_machine_58 : decode c_C_machine 58 = .ok (.iadd, 1) := by decide +kernel
theorem d_C_machine_59 : decode c_C_machine 59 = .ok (.putfield 107, 3) := by decide +kernel
theorem d_C_machine_62 : decode c_C_machine 62 = .ok (.aload_n 0, 1) := by decide +kernel
theorem d_C_machine_63 : decode c_C_machine 63 = .ok (.getfield 107, 3) := by decide +kernel
theorem d_C_machine_66 : decode c_C_machine 66 = .ok (.iconst 1, 1) := by decide +kernel
theorem d_C_machine_67 : decode c_C_machine 67 = .ok (.isub, 1) := by decide +kernel
theorem d_C_machine_68 : decode c_C_machine 68 = .ok (.ireturn, 1) := by decide +kernel
theorem d_C_row_0 : decode c_C_row 0 = .ok (.aload_n 0, 1) := by decide +kernel
theorem d_C_row_1 : decode c_C_row 1 = .ok (.iload_n 1, 1) := by decide +kernel
theorem d_C_row_2 : decode c_C_row 2 = .ok (.invokevirtual 117, 3) := by decide +kernel
theorem d_C_row_5 : decode c_C_row 5 = .ok (.astore_n 2, 1) := by decide +kernel
theorem d_C_row_6 : decode c_C_row 6 = .ok (.aload_n 2, 1) := by decide +kernel
theorem d_C_row_7 : decode c_C_row 7 = .ok (.ifnonnull 7, 3) := by decide +kernel
theorem d_C_row_10 : decode c_C_row 10 = .ok (.iconst (-1), 1) := by decide +kernel
theorem d_C_row_11 : decode c_C_row 11 = .ok (.goto 7, 3) := by decide +kernel
theorem d_C_row_14 : decode c_C_row 14 = .ok (.aload_n 2, 1) := by decide +kernel
theorem d_C_row_15 : decode c_C_row 15 = .ok (.getfield 121, 3) := by decide +kernel
theorem d_C_row_18 : decode c_C_row 18 = .ok (.ireturn, 1) := by decide +kernel
theorem d_C_pin_0 : decode c_C_pin 0 = .ok (.aload_n 0, 1) := by decide +kernel
theorem d_C_pin_1 : decode c_C_pin 1 = .ok (.iload_n 1, 1) := by decide +kernel
theorem d_C_pin_2 : decode c_C_pin 2 = .ok (.invokevirtual 117, 3) := by decide +kernel
theorem d_C_pin_5 : decode c_C_pin 5 = .ok (.astore_n 3, 1) := by decide +kernel
theorem d_C_pin_6 : decode c_C_pin 6 = .ok (.aload_n 3, 1) := by decide +kernel
theorem d_C_pin_7 : decode c_C_pin 7 = .ok (.ifnull 16, 3) := by decide +kernel
theorem d_C_pin_10 : decode c_C_pin 10 = .ok (.iload_n 2, 1) := by decide +kernel
theorem d_C_pin_11 : decode c_C_pin 11 = .ok (.iconst (-1), 1) := by decide +kernel
theorem d_C_pin_12 : decode c_C_pin 12 = .ok (.if_icmp .eq 13, 3) := by decide +kernel
theorem d_C_pin_15 : decode c_C_pin 15 = .ok (.aload_n 0, 1) := by decide +kernel
theorem d_C_pin_16 : decode c_C_pin 16 = .ok (.iload_n 2, 1) := by decide +kernel
theorem d_C_pin_17 : decode c_C_pin 17 = .ok (.invokevirtual 54, 3) := by decide +kernel
theorem d_C_pin_20 : decode c_C_pin 20 = .ok (.ifnonnull 5, 3) := by decide +kernel
theorem d_C_pin_23 : decode c_C_pin 23 = .ok (.iconst 0, 1) := by decide +kernel
theorem d_C_pin_24 : decode c_C_pin 24 = .ok (.ireturn, 1) := by decide +kernel
theorem d_C_pin_25 : decode c_C_pin 25 = .ok (.aload_n 3, 1) := by decide +kernel
theorem d_C_pin_26 : decode c_C_pin 26 = .ok (.iload_n 2, 1) := by decide +kernel
theorem d_C_pin_27 : decode c_C_pin 27 = .ok (.putfield 124, 3) := by decide +kernel
theorem d_C_pin_30 : decode c_C_pin 30 = .ok (.iconst 1, 1) := by decide +kernel
theorem d_C_pin_31 : decode c_C_pin 31 = .ok (.ireturn, 1) := by decide +kernel
theorem d_C_offered_0 : decode c_C_offered 0 = .ok (.aload_n 0, 1) := by decide +kernel
theorem d_C_offered_1 : decode c_C_offered 1 = .ok (.iload_n 1, 1) := by decide +kernel
theorem d_C_offered_2 : decode c_C_offered 2 = .ok (.invokevirtual 117, 3) := by decide +kernel
theorem d_C_offered_5 : decode c_C_offered 5 = .ok (.astore_n 2, 1) := by decide +kernel
theorem d_C_offered_6 : decode c_C_offered 6 = .ok (.aload_n 2, 1) := by decide +kernel
theorem d_C_offered_7 : decode c_C_offered 7 = .ok (.ifnonnull 7, 3) := by decide +kernel
theorem d_C_offered_10 : decode c_C_offered 10 = .ok (.iconst (-1), 1) := by decide +kernel
theorem d_C_offered_11 : decode c_C_offered 11 = .ok (.goto 8, 3) := by decide +kernel
theorem d_C_offered_14 : decode c_C_offered 14 = .ok (.aload_n 0, 1) := by decide +kernel
theorem d_C_offered_15 : decode c_C_offered 15 = .ok (.aload_n 2, 1) := by decide +kernel
theorem d_C_offered_16 : decode c_C_offered 16 = .ok (.invokevirtual 127, 3) := by decide +kernel
theorem d_C_offered_19 : decode c_C_offered 19 = .ok (.ireturn, 1) := by decide +kernel
theorem d_C_may_0 : decode c_C_may 0 = .ok (.aload_n 0, 1) := by decide +kernel
theorem d_C_may_1 : decode c_C_may 1 = .ok (.iload_n 1, 1) := by decide +kernel
theorem d_C_may_2 : decode c_C_may 2 = .ok (.invokevirtual 117, 3) := by decide +kernel
theorem d_C_may_5 : decode c_C_may 5 = .ok (.astore_n 3, 1) := by decide +kernel
theorem d_C_may_6 : decode c_C_may 6 = .ok (.aload_n 3, 1) := by decide +kernel
theorem d_C_may_7 : decode c_C_may 7 = .ok (.ifnull 16, 3) := by decide +kernel
theorem d_C_may_10 : decode c_C_may 10 = .ok (.aload_n 0, 1) := by decide +kernel
theorem d_C_may_11 : decode c_C_may 11 = .ok (.aload_n 3, 1) := by decide +kernel
theorem d_C_may_12 : decode c_C_may 12 = .ok (.iload_n 2, 1) := by decide +kernel
theorem d_C_may_13 : decode c_C_may 13 = .ok (.invokevirtual 131, 3) := by decide +kernel
theorem d_C_may_16 : decode c_C_may 16 = .ok (.ifCond .eq 7, 3) := by decide +kernel
theorem d_C_may_19 : decode c_C_may 19 = .ok (.iconst 1, 1) := by decide +kernel
theorem d_C_may_20 : decode c_C_may 20 = .ok (.goto 4, 3) := by decide +kernel
theorem d_C_may_23 : decode c_C_may 23 = .ok (.iconst 0, 1) := by decide +kernel
theorem d_C_may_24 : decode c_C_may 24 = .ok (.ireturn, 1) := by decide +kernel
theorem d_C_delta_0 : decode c_C_delta 0 = .ok (.aload_n 0, 1) := by decide +kernel
theorem d_C_delta_1 : decode c_C_delta 1 = .ok (.iload_n 1, 1) := by decide +kernel
theorem d_C_delta_2 : decode c_C_delta 2 = .ok (.invokevirtual 54, 3) := by decide +kernel
theorem d_C_delta_5 : decode c_C_delta 5 = .ok (.ifnull 16, 3) := by decide +kernel
theorem d_C_delta_8 : decode c_C_delta 8 = .ok (.aload_n 0, 1) := by decide +kernel
theorem d_C_delta_9 : decode c_C_delta 9 = .ok (.iload_n 2, 1) := by decide +kernel
theorem d_C_delta_10 : decode c_C_delta 10 = .ok (.invokevirtual 54, 3) := by decide +kernel
theorem d_C_delta_13 : decode c_C_delta 13 = .ok (.ifnull 8, 3) := by decide +kernel
theorem d_C_delta_16 : decode c_C_delta 16 = .ok (.iload_n 1, 1) := by decide +kernel
theorem d_C_delta_17 : decode c_C_delta 17 = .ok (.iload_n 2, 1) := by decide +kernel
theorem d_C_delta_18 : decode c_C_delta 18 = .ok (.if_icmp .ne 5, 3) := by decide +kernel
theorem d_C_delta_21 : decode c_C_delta 21 = .ok (.iconst 0, 1) := by decide +kernel
theorem d_C_delta_22 : decode c_C_delta 22 = .ok (.ireturn, 1) := by decide +kernel
theorem d_C_delta_23 : decode c_C_delta 23 = .ok (.iload_n 3, 1) := by decide +kernel
theorem d_C_delta_24 : decode c_C_delta 24 = .ok (.iconst 1, 1) := by decide +kernel
theorem d_C_delta_25 : decode c_C_delta 25 = .ok (.sipush 1000, 3) := by decide +kernel
theorem d_C_delta_28 : decode c_C_delta 28 = .ok (.invokestatic 47, 3) := by decide +kernel
theorem d_C_delta_31 : decode c_C_delta 31 = .ok (.ifCond .eq 20, 3) := by decide +kernel
theorem d_C_delta_34 : decode c_C_delta 34 = .ok (.aload_n 0, 1) := by decide +kernel
theorem d_C_delta_35 : decode c_C_delta 35 = .ok (.getfield 28, 3) := by decide +kernel
theorem d_C_delta_38 : decode c_C_delta 38 = .ok (.iload_n 1, 1) := by decide +kernel
theorem d_C_delta_39 : decode c_C_delta 39 = .ok (.iload_n 2, 1) := by decide +kernel
theorem d_C_delta_40 : decode c_C_delta 40 = .ok (.iload_n 3, 1) := by decide +kernel
theorem d_C_delta_41 : decode c_C_delta 41 = .ok (.invokevirtual 135, 3) := by decide +kernel
theorem d_C_delta_44 : decode c_C_delta 44 = .ok (.ifCond .eq 7, 3) := by decide +kernel
theorem d_C_delta_47 : decode c_C_delta 47 = .ok (.iconst 1, 1) := by decide +kernel
theorem d_C_delta_48 : decode c_C_delta 48 = .ok (.goto 4, 3) := by decide +kernel
theorem d_C_delta_51 : decode c_C_delta 51 = .ok (.iconst 0, 1) := by decide +kernel
theorem d_C_delta_52 : decode c_C_delta 52 = .ok (.ireturn, 1) := by decide +kernel
theorem d_C_cost_0 : decode c_C_cost 0 = .ok (.aload_n 0, 1) := by decide +kernel
theorem d_C_cost_1 : decode c_C_cost 1 = .ok (.iload_n 1, 1) := by decide +kernel
theorem d_C_cost_2 : decode c_C_cost 2 = .ok (.invokevirtual 117, 3) := by decide +kernel
theorem d_C_cost_5 : decode c_C_cost 5 = .ok (.astore_n 2, 1) := by decide +kernel
theorem d_C_cost_6 : decode c_C_cost 6 = .ok (.aload_n 2, 1) := by decide +kernel
theorem d_C_cost_7 : decode c_C_cost 7 = .ok (.ifnonnull 5, 3) := by decide +kernel
theorem d_C_cost_10 : decode c_C_cost 10 = .ok (.iconst (-1), 1) := by decide +kernel
theorem d_C_cost_11 : decode c_C_cost 11 = .ok (.ireturn, 1) := by decide +kernel
theorem d_C_cost_12 : decode c_C_cost 12 = .ok (.aload_n 0, 1) := by decide +kernel
theorem d_C_cost_13 : decode c_C_cost 13 = .ok (.aload_n 2, 1) := by decide +kernel
theorem d_C_cost_14 : decode c_C_cost 14 = .ok (.invokevirtual 138, 3) := by decide +kernel
theorem d_C_cost_17 : decode c_C_cost 17 = .ok (.aload_n 0, 1) := by decide +kernel
theorem d_C_cost_18 : decode c_C_cost 18 = .ok (.getfield 28, 3) := by decide +kernel
theorem d_C_cost_21 : decode c_C_cost 21 = .ok (.getfield 142, 3) := by decide +kernel
theorem d_C_cost_24 : decode c_C_cost 24 = .ok (.ireturn, 1) := by decide +kernel
theorem d_C_steps_0 : decode c_C_steps 0 = .ok (.aload_n 0, 1) := by decide +kernel
theorem d_C_steps_1 : decode c_C_steps 1 = .ok (.iload_n 1, 1) := by decide +kernel
theorem d_C_steps_2 : decode c_C_steps 2 = .ok (.invokevirtual 117, 3) := by decide +kernel
theorem d_C_steps_5 : decode c_C_steps 5 = .ok (.astore_n 2, 1) := by decide +kernel
theorem d_C_steps_6 : decode c_C_steps 6 = .ok (.aload_n 2, 1) := by decide +kernel
theorem d_C_steps_7 : decode c_C_steps 7 = .ok (.ifnonnull 5, 3) := by decide +kernel
theorem d_C_steps_10 : decode c_C_steps 10 = .ok (.iconst (-1), 1) := by decide +kernel
theorem d_C_steps_11 : decode c_C_steps 11 = .ok (.ireturn, 1) := by decide +kernel
theorem d_C_steps_12 : decode c_C_steps 12 = .ok (.aload_n 0, 1) := by decide +kernel
theorem d_C_steps_13 : decode c_C_steps 13 = .ok (.aload_n 2, 1) := by decide +kernel
theorem d_C_steps_14 : decode c_C_steps 14 = .ok (.invokevirtual 138, 3) := by decide +kernel
theorem d_C_steps_17 : decode c_C_steps 17 = .ok (.aload_n 0, 1) := by decide +kernel
theorem d_C_steps_18 : decode c_C_steps 18 = .ok (.getfield 28, 3) := by decide +kernel
theorem d_C_steps_21 : decode c_C_steps 21 = .ok (.getfield 145, 3) := by decide +kernel
theorem d_C_steps_24 : decode c_C_steps 24 = .ok (.ireturn, 1) := by decide +kernel
theorem d_C_update_0 : decode c_C_update 0 = .ok (.aload_n 0, 1) := by decide +kernel
theorem d_C_update_1 : decode c_C_update 1 = .ok (.iload_n 1, 1) := by decide +kernel
theorem d_C_update_2 : decode c_C_update 2 = .ok (.invokevirtual 117, 3) := by decide +kernel
theorem d_C_update_5 : decode c_C_update 5 = .ok (.astore_n 2, 1) := by decide +kernel
theorem d_C_update_6 : decode c_C_update 6 = .ok (.aload_n 2, 1) := by decide +kernel
theorem d_C_update_7 : decode c_C_update 7 = .ok (.ifnonnull 5, 3) := by decide +kernel
theorem d_C_update_10 : decode c_C_update 10 = .ok (.iconst (-1), 1) := by decide +kernel
theorem d_C_update_11 : decode c_C_update 11 = .ok (.ireturn, 1) := by decide +kernel
theorem d_C_update_12 : decode c_C_update 12 = .ok (.aload_n 0, 1) := by decide +kernel
theorem d_C_update_13 : decode c_C_update 13 = .ok (.aload_n 2, 1) := by decide +kernel
theorem d_C_update_14 : decode c_C_update 14 = .ok (.invokevirtual 127, 3) := by decide +kernel
theorem d_C_update_17 : decode c_C_update 17 = .ok (.istore_n 3, 1) := by decide +kernel
theorem d_C_update_18 : decode c_C_update 18 = .ok (.iload_n 3, 1) := by decide +kernel
theorem d_C_update_19 : decode c_C_update 19 = .ok (.iconst (-1), 1) := by decide +kernel
theorem d_C_update_20 : decode c_C_update 20 = .ok (.if_icmp .eq 8, 3) := by decide +kernel
theorem d_C_update_23 : decode c_C_update 23 = .ok (.aload_n 2, 1) := by decide +kernel
theorem d_C_update_24 : decode c_C_update 24 = .ok (.iload_n 3, 1) := by decide +kernel
theorem d_C_update_25 : decode c_C_update 25 = .ok (.putfield 148, 3) := by decide +kernel
theorem d_C_update_28 : decode c_C_update 28 = .ok (.iload_n 3, 1) := by decide +kernel
theorem d_C_update_29 : decode c_C_update 29 = .ok (.ireturn, 1) := by decide +kernel
theorem d_C_has_0 : decode c_C_has 0 = .ok (.aload_n 0, 1) := by decide +kernel
theorem d_C_has_1 : decode c_C_has 1 = .ok (.iload_n 1, 1) := by decide +kernel
theorem d_C_has_2 : decode c_C_has 2 = .ok (.invokevirtual 117, 3) := by decide +kernel
