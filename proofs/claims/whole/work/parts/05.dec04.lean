theorem d_T_tick_18 : decode c_T_tick 18 = .ok (.iconst 0, 1) := by decide +kernel
theorem d_T_tick_19 : decode c_T_tick 19 = .ok (.istore_n 2, 1) := by decide +kernel
theorem d_T_tick_20 : decode c_T_tick 20 = .ok (.iload_n 2, 1) := by decide +kernel
theorem d_T_tick_21 : decode c_T_tick 21 = .ok (.iload_n 1, 1) := by decide +kernel
theorem d_T_tick_22 : decode c_T_tick 22 = .ok (.if_icmp .ge 40, 3) := by decide +kernel
theorem d_T_tick_25 : decode c_T_tick 25 = .ok (.aload_n 0, 1) := by decide +kernel
theorem d_T_tick_26 : decode c_T_tick 26 = .ok (.dup, 1) := by decide +kernel
theorem d_T_tick_27 : decode c_T_tick 27 = .ok (.getfield 108, 3) := by decide +kernel
theorem d_T_tick_30 : decode c_T_tick 30 = .ok (.iconst 1, 1) := by decide +kernel
theorem d_T_tick_31 : decode c_T_tick 31 = .ok (.iadd, 1) := by decide +kernel
theorem d_T_tick_32 : decode c_T_tick 32 = .ok (.putfield 108, 3) := by decide +kernel
theorem d_T_tick_35 : decode c_T_tick 35 = .ok (.iconst 0, 1) := by decide +kernel
theorem d_T_tick_36 : decode c_T_tick 36 = .ok (.istore_n 3, 1) := by decide +kernel
theorem d_T_tick_37 : decode c_T_tick 37 = .ok (.iload_n 3, 1) := by decide +kernel
theorem d_T_tick_38 : decode c_T_tick 38 = .ok (.aload_n 0, 1) := by decide +kernel
theorem d_T_tick_39 : decode c_T_tick 39 = .ok (.getfield 93, 3) := by decide +kernel
theorem d_T_tick_42 : decode c_T_tick 42 = .ok (.if_icmp .ge 14, 3) := by decide +kernel
theorem d_T_tick_45 : decode c_T_tick 45 = .ok (.aload_n 0, 1) := by decide +kernel
theorem d_T_tick_46 : decode c_T_tick 46 = .ok (.iload_n 3, 1) := by decide +kernel
theorem d_T_tick_47 : decode c_T_tick 47 = .ok (.invokevirtual 118, 3) := by decide +kernel
theorem d_T_tick_50 : decode c_T_tick 50 = .ok (.iinc 3 1, 3) := by decide +kernel
theorem d_T_tick_53 : decode c_T_tick 53 = .ok (.goto (-16), 3) := by decide +kernel
theorem d_T_tick_56 : decode c_T_tick 56 = .ok (.iinc 2 1, 3) := by decide +kernel
theorem d_T_tick_59 : decode c_T_tick 59 = .ok (.goto (-39), 3) := by decide +kernel
theorem d_T_tick_62 : decode c_T_tick 62 = .ok (.aload_n 0, 1) := by decide +kernel
theorem d_T_tick_63 : decode c_T_tick 63 = .ok (.getfield 108, 3) := by decide +kernel
theorem d_T_tick_66 : decode c_T_tick 66 = .ok (.ireturn, 1) := by decide +kernel
theorem d_T_shareOf_0 : decode c_T_shareOf 0 = .ok (.aload_n 0, 1) := by decide +kernel
theorem d_T_shareOf_1 : decode c_T_shareOf 1 = .ok (.getfield 31, 3) := by decide +kernel
theorem d_T_shareOf_4 : decode c_T_shareOf 4 = .ok (.iload_n 1, 1) := by decide +kernel
theorem d_T_shareOf_5 : decode c_T_shareOf 5 = .ok (.iaload, 1) := by decide +kernel
theorem d_T_shareOf_6 : decode c_T_shareOf 6 = .ok (.ifCond .eq 13, 3) := by decide +kernel
theorem d_T_shareOf_9 : decode c_T_shareOf 9 = .ok (.aload_n 0, 1) := by decide +kernel
theorem d_T_shareOf_10 : decode c_T_shareOf 10 = .ok (.getfield 31, 3) := by decide +kernel
theorem d_T_shareOf_13 : decode c_T_shareOf 13 = .ok (.iload_n 1, 1) := by decide +kernel
theorem d_T_shareOf_14 : decode c_T_shareOf 14 = .ok (.iaload, 1) := by decide +kernel
theorem d_T_shareOf_15 : decode c_T_shareOf 15 = .ok (.iconst 4, 1) := by decide +kernel
theorem d_T_shareOf_16 : decode c_T_shareOf 16 = .ok (.if_icmp .ne 7, 3) := by decide +kernel
theorem d_T_shareOf_19 : decode c_T_shareOf 19 = .ok (.iconst 0, 1) := by decide +kernel
theorem d_T_shareOf_20 : decode c_T_shareOf 20 = .ok (.goto 34, 3) := by decide +kernel
theorem d_T_shareOf_23 : decode c_T_shareOf 23 = .ok (.aload_n 0, 1) := by decide +kernel
theorem d_T_shareOf_24 : decode c_T_shareOf 24 = .ok (.getfield 31, 3) := by decide +kernel
theorem d_T_shareOf_27 : decode c_T_shareOf 27 = .ok (.iload_n 1, 1) := by decide +kernel
theorem d_T_shareOf_28 : decode c_T_shareOf 28 = .ok (.iaload, 1) := by decide +kernel
theorem d_T_shareOf_29 : decode c_T_shareOf 29 = .ok (.iconst 3, 1) := by decide +kernel
theorem d_T_shareOf_30 : decode c_T_shareOf 30 = .ok (.if_icmp .ne 9, 3) := by decide +kernel
theorem d_T_shareOf_33 : decode c_T_shareOf 33 = .ok (.sipush 1000, 3) := by decide +kernel
theorem d_T_shareOf_36 : decode c_T_shareOf 36 = .ok (.goto 18, 3) := by decide +kernel
theorem d_T_shareOf_39 : decode c_T_shareOf 39 = .ok (.aload_n 0, 1) := by decide +kernel
theorem d_T_shareOf_40 : decode c_T_shareOf 40 = .ok (.getfield 19, 3) := by decide +kernel
theorem d_T_shareOf_43 : decode c_T_shareOf 43 = .ok (.iconst 5, 1) := by decide +kernel
theorem d_T_shareOf_44 : decode c_T_shareOf 44 = .ok (.iload_n 1, 1) := by decide +kernel
theorem d_T_shareOf_45 : decode c_T_shareOf 45 = .ok (.imul, 1) := by decide +kernel
theorem d_T_shareOf_46 : decode c_T_shareOf 46 = .ok (.aload_n 0, 1) := by decide +kernel
theorem d_T_shareOf_47 : decode c_T_shareOf 47 = .ok (.getfield 34, 3) := by decide +kernel
theorem d_T_shareOf_50 : decode c_T_shareOf 50 = .ok (.iload_n 1, 1) := by decide +kernel
theorem d_T_shareOf_51 : decode c_T_shareOf 51 = .ok (.iaload, 1) := by decide +kernel
theorem d_T_shareOf_52 : decode c_T_shareOf 52 = .ok (.iadd, 1) := by decide +kernel
theorem d_T_shareOf_53 : decode c_T_shareOf 53 = .ok (.iaload, 1) := by decide +kernel
theorem d_T_shareOf_54 : decode c_T_shareOf 54 = .ok (.ireturn, 1) := by decide +kernel
theorem d_T_about_0 : decode c_T_about 0 = .ok (.aload_n 0, 1) := by decide +kernel
theorem d_T_about_1 : decode c_T_about 1 = .ok (.iconst 0, 1) := by decide +kernel
theorem d_T_about_2 : decode c_T_about 2 = .ok (.putfield 89, 3) := by decide +kernel
theorem d_T_about_5 : decode c_T_about 5 = .ok (.aload_n 0, 1) := by decide +kernel
theorem d_T_about_6 : decode c_T_about 6 = .ok (.iload_n 1, 1) := by decide +kernel
theorem d_T_about_7 : decode c_T_about 7 = .ok (.invokevirtual 104, 3) := by decide +kernel
theorem d_T_about_10 : decode c_T_about 10 = .ok (.ifCond .ne 5, 3) := by decide +kernel
theorem d_T_about_13 : decode c_T_about 13 = .ok (.iconst (-1), 1) := by decide +kernel
theorem d_T_about_14 : decode c_T_about 14 = .ok (.ireturn, 1) := by decide +kernel
theorem d_T_about_15 : decode c_T_about 15 = .ok (.iload_n 2, 1) := by decide +kernel
theorem d_T_about_16 : decode c_T_about 16 = .ok (.tableswitch 94 0 4 #[36, 43, 74, 81, 87], 36) := by decide +kernel
theorem d_T_about_52 : decode c_T_about 52 = .ok (.aload_n 0, 1) := by decide +kernel
theorem d_T_about_53 : decode c_T_about 53 = .ok (.getfield 31, 3) := by decide +kernel
theorem d_T_about_56 : decode c_T_about 56 = .ok (.iload_n 1, 1) := by decide +kernel
theorem d_T_about_57 : decode c_T_about 57 = .ok (.iaload, 1) := by decide +kernel
theorem d_T_about_58 : decode c_T_about 58 = .ok (.ireturn, 1) := by decide +kernel
theorem d_T_about_59 : decode c_T_about 59 = .ok (.aload_n 0, 1) := by decide +kernel
theorem d_T_about_60 : decode c_T_about 60 = .ok (.getfield 31, 3) := by decide +kernel
theorem d_T_about_63 : decode c_T_about 63 = .ok (.iload_n 1, 1) := by decide +kernel
theorem d_T_about_64 : decode c_T_about 64 = .ok (.iaload, 1) := by decide +kernel
theorem d_T_about_65 : decode c_T_about 65 = .ok (.iconst 1, 1) := by decide +kernel
theorem d_T_about_66 : decode c_T_about 66 = .ok (.if_icmp .eq 13, 3) := by decide +kernel
theorem d_T_about_69 : decode c_T_about 69 = .ok (.aload_n 0, 1) := by decide +kernel
theorem d_T_about_70 : decode c_T_about 70 = .ok (.getfield 31, 3) := by decide +kernel
theorem d_T_about_73 : decode c_T_about 73 = .ok (.iload_n 1, 1) := by decide +kernel
theorem d_T_about_74 : decode c_T_about 74 = .ok (.iaload, 1) := by decide +kernel
theorem d_T_about_75 : decode c_T_about 75 = .ok (.iconst 2, 1) := by decide +kernel
theorem d_T_about_76 : decode c_T_about 76 = .ok (.if_icmp .ne 12, 3) := by decide +kernel
theorem d_T_about_79 : decode c_T_about 79 = .ok (.aload_n 0, 1) := by decide +kernel
theorem d_T_about_80 : decode c_T_about 80 = .ok (.getfield 34, 3) := by decide +kernel
theorem d_T_about_83 : decode c_T_about 83 = .ok (.iload_n 1, 1) := by decide +kernel
theorem d_T_about_84 : decode c_T_about 84 = .ok (.iaload, 1) := by decide +kernel
theorem d_T_about_85 : decode c_T_about 85 = .ok (.goto 4, 3) := by decide +kernel
theorem d_T_about_88 : decode c_T_about 88 = .ok (.iconst (-1), 1) := by decide +kernel
theorem d_T_about_89 : decode c_T_about 89 = .ok (.ireturn, 1) := by decide +kernel
theorem d_T_about_90 : decode c_T_about 90 = .ok (.aload_n 0, 1) := by decide +kernel
theorem d_T_about_91 : decode c_T_about 91 = .ok (.getfield 37, 3) := by decide +kernel
theorem d_T_about_94 : decode c_T_about 94 = .ok (.iload_n 1, 1) := by decide +kernel
theorem d_T_about_95 : decode c_T_about 95 = .ok (.iaload, 1) := by decide +kernel
theorem d_T_about_96 : decode c_T_about 96 = .ok (.ireturn, 1) := by decide +kernel
theorem d_T_about_97 : decode c_T_about 97 = .ok (.aload_n 0, 1) := by decide +kernel
theorem d_T_about_98 : decode c_T_about 98 = .ok (.iload_n 1, 1) := by decide +kernel
theorem d_T_about_99 : decode c_T_about 99 = .ok (.invokevirtual 122, 3) := by decide +kernel
theorem d_T_about_102 : decode c_T_about 102 = .ok (.ireturn, 1) := by decide +kernel
theorem d_T_about_103 : decode c_T_about 103 = .ok (.aload_n 0, 1) := by decide +kernel
theorem d_T_about_104 : decode c_T_about 104 = .ok (.getfield 43, 3) := by decide +kernel
theorem d_T_about_107 : decode c_T_about 107 = .ok (.iload_n 1, 1) := by decide +kernel
theorem d_T_about_108 : decode c_T_about 108 = .ok (.iaload, 1) := by decide +kernel
theorem d_T_about_109 : decode c_T_about 109 = .ok (.ireturn, 1) := by decide +kernel
theorem d_T_about_110 : decode c_T_about 110 = .ok (.iconst (-1), 1) := by decide +kernel
theorem d_T_about_111 : decode c_T_about 111 = .ok (.ireturn, 1) := by decide +kernel
theorem d_T_back_0 : decode c_T_back 0 = .ok (.aload_n 0, 1) := by decide +kernel
theorem d_T_back_1 : decode c_T_back 1 = .ok (.iconst 0, 1) := by decide +kernel
theorem d_T_back_2 : decode c_T_back 2 = .ok (.putfield 89, 3) := by decide +kernel
theorem d_T_back_5 : decode c_T_back 5 = .ok (.iload_n 1, 1) := by decide +kernel
theorem d_T_back_6 : decode c_T_back 6 = .ok (.iconst 0, 1) := by decide +kernel
theorem d_T_back_7 : decode c_T_back 7 = .ok (.iconst 2, 1) := by decide +kernel
theorem d_T_back_8 : decode c_T_back 8 = .ok (.invokestatic 99, 3) := by decide +kernel
theorem d_T_back_11 : decode c_T_back 11 = .ok (.ifCond .eq 26, 3) := by decide +kernel
theorem d_T_back_14 : decode c_T_back 14 = .ok (.iload_n 2, 1) := by decide +kernel
theorem d_T_back_15 : decode c_T_back 15 = .ok (.iconst (-1), 1) := by decide +kernel
theorem d_T_back_16 : decode c_T_back 16 = .ok (.if_icmp .eq 23, 3) := by decide +kernel
theorem d_T_back_19 : decode c_T_back 19 = .ok (.aload_n 0, 1) := by decide +kernel
theorem d_T_back_20 : decode c_T_back 20 = .ok (.iload_n 2, 1) := by decide +kernel
theorem d_T_back_21 : decode c_T_back 21 = .ok (.invokevirtual 104, 3) := by decide +kernel
theorem d_T_back_24 : decode c_T_back 24 = .ok (.ifCond .eq 13, 3) := by decide +kernel
theorem d_T_back_27 : decode c_T_back 27 = .ok (.aload_n 0, 1) := by decide +kernel
theorem d_T_back_28 : decode c_T_back 28 = .ok (.getfield 7, 3) := by decide +kernel
theorem d_T_back_31 : decode c_T_back 31 = .ok (.iload_n 2, 1) := by decide +kernel
theorem d_T_back_32 : decode c_T_back 32 = .ok (.iaload, 1) := by decide +kernel
theorem d_T_back_33 : decode c_T_back 33 = .ok (.iload_n 1, 1) := by decide +kernel
theorem d_T_back_34 : decode c_T_back 34 = .ok (.if_icmp .eq 5, 3) := by decide +kernel
theorem d_T_back_37 : decode c_T_back 37 = .ok (.iconst 0, 1) := by decide +kernel
theorem d_T_back_38 : decode c_T_back 38 = .ok (.ireturn, 1) := by decide +kernel
theorem d_T_back_39 : decode c_T_back 39 = .ok (.aload_n 0, 1) := by decide +kernel
theorem d_T_back_40 : decode c_T_back 40 = .ok (.getfield 53, 3) := by decide +kernel
theorem d_T_back_43 : decode c_T_back 43 = .ok (.iload_n 1, 1) := by decide +kernel
theorem d_T_back_44 : decode c_T_back 44 = .ok (.iload_n 2, 1) := by decide +kernel
theorem d_T_back_45 : decode c_T_back 45 = .ok (.iastore, 1) := by decide +kernel
theorem d_T_back_46 : decode c_T_back 46 = .ok (.iconst 1, 1) := by decide +kernel
theorem d_T_back_47 : decode c_T_back 47 = .ok (.ireturn, 1) := by decide +kernel
theorem d_T_machine_0 : decode c_T_machine 0 = .ok (.aload_n 0, 1) := by decide +kernel
theorem d_T_machine_1 : decode c_T_machine 1 = .ok (.iconst 0, 1) := by decide +kernel
theorem d_T_machine_2 : decode c_T_machine 2 = .ok (.putfield 89, 3) := by decide +kernel
theorem d_T_machine_5 : decode c_T_machine 5 = .ok (.aload_n 0, 1) := by decide +kernel
theorem d_T_machine_6 : decode c_T_machine 6 = .ok (.getfield 96, 3) := by decide +kernel
theorem d_T_machine_9 : decode c_T_machine 9 = .ok (.bipush 30, 2) := by decide +kernel
theorem d_T_machine_11 : decode c_T_machine 11 = .ok (.if_icmp .eq 21, 3) := by decide +kernel
theorem d_T_machine_14 : decode c_T_machine 14 = .ok (.iload_n 1, 1) := by decide +kernel
theorem d_T_machine_15 : decode c_T_machine 15 = .ok (.iconst 0, 1) := by decide +kernel
theorem d_T_machine_16 : decode c_T_machine 16 = .ok (.iconst 2, 1) := by decide +kernel
theorem d_T_machine_17 : decode c_T_machine 17 = .ok (.invokestatic 99, 3) := by decide +kernel
theorem d_T_machine_20 : decode c_T_machine 20 = .ok (.ifCond .eq 12, 3) := by decide +kernel
theorem d_T_machine_23 : decode c_T_machine 23 = .ok (.iload_n 2, 1) := by decide +kernel
theorem d_T_machine_24 : decode c_T_machine 24 = .ok (.iconst 0, 1) := by decide +kernel
theorem d_T_machine_25 : decode c_T_machine 25 = .ok (.iconst 3, 1) := by decide +kernel
theorem d_T_machine_26 : decode c_T_machine 26 = .ok (.invokestatic 99, 3) := by decide +kernel
theorem d_T_machine_29 : decode c_T_machine 29 = .ok (.ifCond .ne 5, 3) := by decide +kernel
theorem d_T_machine_32 : decode c_T_machine 32 = .ok (.iconst (-1), 1) := by decide +kernel
theorem d_T_machine_33 : decode c_T_machine 33 = .ok (.ireturn, 1) := by decide +kernel
theorem d_T_machine_34 : decode c_T_machine 34 = .ok (.aload_n 0, 1) := by decide +kernel
theorem d_T_machine_35 : decode c_T_machine 35 = .ok (.getfield 56, 3) := by decide +kernel
theorem d_T_machine_38 : decode c_T_machine 38 = .ok (.aload_n 0, 1) := by decide +kernel
theorem d_T_machine_39 : decode c_T_machine 39 = .ok (.getfield 96, 3) := by decide +kernel
theorem d_T_machine_42 : decode c_T_machine 42 = .ok (.iload_n 1, 1) := by decide +kernel
theorem d_T_machine_43 : decode c_T_machine 43 = .ok (.iastore, 1) := by decide +kernel
theorem d_T_machine_44 : decode c_T_machine 44 = .ok (.aload_n 0, 1) := by decide +kernel
theorem d_T_machine_45 : decode c_T_machine 45 = .ok (.getfield 59, 3) := by decide +kernel
theorem d_T_machine_48 : decode c_T_machine 48 = .ok (.aload_n 0, 1) := by decide +kernel
theorem d_T_machine_49 : decode c_T_machine 49 = .ok (.getfield 96, 3) := by decide +kernel
theorem d_T_machine_52 : decode c_T_machine 52 = .ok (.iload_n 2, 1) := by decide +kernel
theorem d_T_machine_53 : decode c_T_machine 53 = .ok (.iastore, 1) := by decide +kernel
theorem d_T_machine_54 : decode c_T_machine 54 = .ok (.aload_n 0, 1) := by decide +kernel
theorem d_T_machine_55 : decode c_T_machine 55 = .ok (.getfield 62, 3) := by decide +kernel
theorem d_T_machine_58 : decode c_T_machine 58 = .ok (.aload_n 0, 1) := by decide +kernel
theorem d_T_machine_59 : decode c_T_machine 59 = .ok (.getfield 96, 3) := by decide +kernel
theorem d_T_machine_62 : decode c_T_machine 62 = .ok (.iconst (-1), 1) := by decide +kernel
theorem d_T_machine_63 : decode c_T_machine 63 = .ok (.iastore, 1) := by decide +kernel
theorem d_T_machine_64 : decode c_T_machine 64 = .ok (.aload_n 0, 1) := by decide +kernel
theorem d_T_machine_65 : decode c_T_machine 65 = .ok (.getfield 65, 3) := by decide +kernel
theorem d_T_machine_68 : decode c_T_machine 68 = .ok (.aload_n 0, 1) := by decide +kernel
theorem d_T_machine_69 : decode c_T_machine 69 = .ok (.getfield 96, 3) := by decide +kernel
theorem d_T_machine_72 : decode c_T_machine 72 = .ok (.iconst (-1), 1) := by decide +kernel
theorem d_T_machine_73 : decode c_T_machine 73 = .ok (.iastore, 1) := by decide +kernel
theorem d_T_machine_74 : decode c_T_machine 74 = .ok (.aload_n 0, 1) := by decide +kernel
theorem d_T_machine_75 : decode c_T_machine 75 = .ok (.dup, 1) := by decide +kernel
theorem d_T_machine_76 : decode c_T_machine 76 = .ok (.getfield 96, 3) := by decide +kernel
theorem d_T_machine_79 : decode c_T_machine 79 = .ok (.iconst 1, 1) := by decide +kernel
theorem d_T_machine_80 : decode c_T_machine 80 = .ok (.iadd, 1) := by decide +kernel
theorem d_T_machine_81 : decode c_T_machine 81 = .ok (.putfield 96, 3) := by decide +kernel
theorem d_T_machine_84 : decode c_T_machine 84 = .ok (.aload_n 0, 1) := by decide +kernel
theorem d_T_machine_85 : decode c_T_machine 85 = .ok (.getfield 96, 3) := by decide +kernel
theorem d_T_machine_88 : decode c_T_machine 88 = .ok (.iconst 1, 1) := by decide +kernel
theorem d_T_machine_89 : decode c_T_machine 89 = .ok (.isub, 1) := by decide +kernel
theorem d_T_machine_90 : decode c_T_machine 90 = .ok (.ireturn, 1) := by decide +kernel
theorem d_T_rowOf_0 : decode c_T_rowOf 0 = .ok (.iload_n 0, 1) := by decide +kernel
theorem d_T_rowOf_1 : decode c_T_rowOf 1 = .ok (.iconst 1, 1) := by decide +kernel
theorem d_T_rowOf_2 : decode c_T_rowOf 2 = .ok (.iadd, 1) := by decide +kernel
theorem d_T_rowOf_3 : decode c_T_rowOf 3 = .ok (.i2l, 1) := by decide +kernel
theorem d_T_rowOf_4 : decode c_T_rowOf 4 = .ok (.ldc2_w 126, 3) := by decide +kernel
theorem d_T_rowOf_7 : decode c_T_rowOf 7 = .ok (.lmul, 1) := by decide +kernel
theorem d_T_rowOf_8 : decode c_T_rowOf 8 = .ok (.ldc2_w 128, 3) := by decide +kernel
theorem d_T_rowOf_11 : decode c_T_rowOf 11 = .ok (.land, 1) := by decide +kernel
theorem d_T_rowOf_12 : decode c_T_rowOf 12 = .ok (.ldc2_w 130, 3) := by decide +kernel
theorem d_T_rowOf_15 : decode c_T_rowOf 15 = .ok (.ldiv, 1) := by decide +kernel
theorem d_T_rowOf_16 : decode c_T_rowOf 16 = .ok (.ldc2_w 132, 3) := by decide +kernel
theorem d_T_rowOf_19 : decode c_T_rowOf 19 = .ok (.lrem, 1) := by decide +kernel
theorem d_T_rowOf_20 : decode c_T_rowOf 20 = .ok (.l2i, 1) := by decide +kernel
theorem d_T_rowOf_21 : decode c_T_rowOf 21 = .ok (.ireturn, 1) := by decide +kernel
theorem d_T_row_0 : decode c_T_row 0 = .ok (.aload_n 0, 1) := by decide +kernel
theorem d_T_row_1 : decode c_T_row 1 = .ok (.iconst 0, 1) := by decide +kernel
theorem d_T_row_2 : decode c_T_row 2 = .ok (.putfield 89, 3) := by decide +kernel
theorem d_T_row_5 : decode c_T_row 5 = .ok (.aload_n 0, 1) := by decide +kernel
theorem d_T_row_6 : decode c_T_row 6 = .ok (.iload_n 1, 1) := by decide +kernel
theorem d_T_row_7 : decode c_T_row 7 = .ok (.invokevirtual 134, 3) := by decide +kernel
theorem d_T_row_10 : decode c_T_row 10 = .ok (.ifCond .eq 10, 3) := by decide +kernel
theorem d_T_row_13 : decode c_T_row 13 = .ok (.iload_n 1, 1) := by decide +kernel
theorem d_T_row_14 : decode c_T_row 14 = .ok (.invokestatic 137, 3) := by decide +kernel
theorem d_T_row_17 : decode c_T_row 17 = .ok (.goto 4, 3) := by decide +kernel
theorem d_T_row_20 : decode c_T_row 20 = .ok (.iconst (-1), 1) := by decide +kernel
theorem d_T_row_21 : decode c_T_row 21 = .ok (.ireturn, 1) := by decide +kernel
theorem d_T_pin_0 : decode c_T_pin 0 = .ok (.aload_n 0, 1) := by decide +kernel
theorem d_T_pin_1 : decode c_T_pin 1 = .ok (.iconst 0, 1) := by decide +kernel
theorem d_T_pin_2 : decode c_T_pin 2 = .ok (.putfield 89, 3) := by decide +kernel
theorem d_T_pin_5 : decode c_T_pin 5 = .ok (.aload_n 0, 1) := by decide +kernel
theorem d_T_pin_6 : decode c_T_pin 6 = .ok (.iload_n 1, 1) := by decide +kernel
theorem d_T_pin_7 : decode c_T_pin 7 = .ok (.invokevirtual 134, 3) := by decide +kernel
theorem d_T_pin_10 : decode c_T_pin 10 = .ok (.ifCond .eq 16, 3) := by decide +kernel
theorem d_T_pin_13 : decode c_T_pin 13 = .ok (.iload_n 2, 1) := by decide +kernel
theorem d_T_pin_14 : decode c_T_pin 14 = .ok (.iconst (-1), 1) := by decide +kernel
theorem d_T_pin_15 : decode c_T_pin 15 = .ok (.if_icmp .eq 13, 3) := by decide +kernel
theorem d_T_pin_18 : decode c_T_pin 18 = .ok (.aload_n 0, 1) := by decide +kernel
theorem d_T_pin_19 : decode c_T_pin 19 = .ok (.iload_n 2, 1) := by decide +kernel
theorem d_T_pin_20 : decode c_T_pin 20 = .ok (.invokevirtual 104, 3) := by decide +kernel
theorem d_T_pin_23 : decode c_T_pin 23 = .ok (.ifCond .ne 5, 3) := by decide +kernel
theorem d_T_pin_26 : decode c_T_pin 26 = .ok (.iconst 0, 1) := by decide +kernel
theorem d_T_pin_27 : decode c_T_pin 27 = .ok (.ireturn, 1) := by decide +kernel
theorem d_T_pin_28 : decode c_T_pin 28 = .ok (.aload_n 0, 1) := by decide +kernel
theorem d_T_pin_29 : decode c_T_pin 29 = .ok (.getfield 65, 3) := by decide +kernel
theorem d_T_pin_32 : decode c_T_pin 32 = .ok (.iload_n 1, 1) := by decide +kernel
theorem d_T_pin_33 : decode c_T_pin 33 = .ok (.iload_n 2, 1) := by decide +kernel
theorem d_T_pin_34 : decode c_T_pin 34 = .ok (.iastore, 1) := by decide +kernel
theorem d_T_pin_35 : decode c_T_pin 35 = .ok (.iconst 1, 1) := by decide +kernel
theorem d_T_pin_36 : decode c_T_pin 36 = .ok (.ireturn, 1) := by decide +kernel
theorem d_T_isBounded_0 : decode c_T_isBounded 0 = .ok (.aload_n 0, 1) := by decide +kernel
theorem d_T_isBounded_1 : decode c_T_isBounded 1 = .ok (.getfield 53, 3) := by decide +kernel
theorem d_T_isBounded_4 : decode c_T_isBounded 4 = .ok (.iload_n 1, 1) := by decide +kernel
theorem d_T_isBounded_5 : decode c_T_isBounded 5 = .ok (.iaload, 1) := by decide +kernel
theorem d_T_isBounded_6 : decode c_T_isBounded 6 = .ok (.iconst (-1), 1) := by decide +kernel
theorem d_T_isBounded_7 : decode c_T_isBounded 7 = .ok (.if_icmp .eq 17, 3) := by decide +kernel
theorem d_T_isBounded_10 : decode c_T_isBounded 10 = .ok (.iload_n 2, 1) := by decide +kernel
theorem d_T_isBounded_11 : decode c_T_isBounded 11 = .ok (.aload_n 0, 1) := by decide +kernel
theorem d_T_isBounded_12 : decode c_T_isBounded 12 = .ok (.getfield 53, 3) := by decide +kernel
theorem d_T_isBounded_15 : decode c_T_isBounded 15 = .ok (.iload_n 1, 1) := by decide +kernel
theorem d_T_isBounded_16 : decode c_T_isBounded 16 = .ok (.iaload, 1) := by decide +kernel
theorem d_T_isBounded_17 : decode c_T_isBounded 17 = .ok (.if_icmp .le 7, 3) := by decide +kernel
theorem d_T_isBounded_20 : decode c_T_isBounded 20 = .ok (.iconst 1, 1) := by decide +kernel
theorem d_T_isBounded_21 : decode c_T_isBounded 21 = .ok (.goto 4, 3) := by decide +kernel
theorem d_T_isBounded_24 : decode c_T_isBounded 24 = .ok (.iconst 0, 1) := by decide +kernel
theorem d_T_isBounded_25 : decode c_T_isBounded 25 = .ok (.ireturn, 1) := by decide +kernel
theorem d_T_mayGet_0 : decode c_T_mayGet 0 = .ok (.aload_n 0, 1) := by decide +kernel
theorem d_T_mayGet_1 : decode c_T_mayGet 1 = .ok (.getfield 7, 3) := by decide +kernel
theorem d_T_mayGet_4 : decode c_T_mayGet 4 = .ok (.iload_n 2, 1) := by decide +kernel
theorem d_T_mayGet_5 : decode c_T_mayGet 5 = .ok (.iaload, 1) := by decide +kernel
theorem d_T_mayGet_6 : decode c_T_mayGet 6 = .ok (.aload_n 0, 1) := by decide +kernel
theorem d_T_mayGet_7 : decode c_T_mayGet 7 = .ok (.getfield 56, 3) := by decide +kernel
theorem d_T_mayGet_10 : decode c_T_mayGet 10 = .ok (.iload_n 1, 1) := by decide +kernel
theorem d_T_mayGet_11 : decode c_T_mayGet 11 = .ok (.iaload, 1) := by decide +kernel
theorem d_T_mayGet_12 : decode c_T_mayGet 12 = .ok (.if_icmp .ne 17, 3) := by decide +kernel
theorem d_T_mayGet_15 : decode c_T_mayGet 15 = .ok (.aload_n 0, 1) := by decide +kernel
theorem d_T_mayGet_16 : decode c_T_mayGet 16 = .ok (.aload_n 0, 1) := by decide +kernel
theorem d_T_mayGet_17 : decode c_T_mayGet 17 = .ok (.getfield 7, 3) := by decide +kernel
theorem d_T_mayGet_20 : decode c_T_mayGet 20 = .ok (.iload_n 2, 1) := by decide +kernel
theorem d_T_mayGet_21 : decode c_T_mayGet 21 = .ok (.iaload, 1) := by decide +kernel
theorem d_T_mayGet_22 : decode c_T_mayGet 22 = .ok (.iload_n 2, 1) := by decide +kernel
theorem d_T_mayGet_23 : decode c_T_mayGet 23 = .ok (.invokevirtual 140, 3) := by decide +kernel
theorem d_T_mayGet_26 : decode c_T_mayGet 26 = .ok (.ifCond .eq 5, 3) := by decide +kernel
theorem d_T_mayGet_29 : decode c_T_mayGet 29 = .ok (.iconst 0, 1) := by decide +kernel
theorem d_T_mayGet_30 : decode c_T_mayGet 30 = .ok (.ireturn, 1) := by decide +kernel
theorem d_T_mayGet_31 : decode c_T_mayGet 31 = .ok (.aload_n 0, 1) := by decide +kernel
theorem d_T_mayGet_32 : decode c_T_mayGet 32 = .ok (.getfield 49, 3) := by decide +kernel
theorem d_T_mayGet_35 : decode c_T_mayGet 35 = .ok (.iload_n 2, 1) := by decide +kernel
theorem d_T_mayGet_36 : decode c_T_mayGet 36 = .ok (.baload, 1) := by decide +kernel
theorem d_T_mayGet_37 : decode c_T_mayGet 37 = .ok (.ifCond .eq 45, 3) := by decide +kernel
theorem d_T_mayGet_40 : decode c_T_mayGet 40 = .ok (.aload_n 0, 1) := by decide +kernel
theorem d_T_mayGet_41 : decode c_T_mayGet 41 = .ok (.getfield 31, 3) := by decide +kernel
theorem d_T_mayGet_44 : decode c_T_mayGet 44 = .ok (.iload_n 2, 1) := by decide +kernel
theorem d_T_mayGet_45 : decode c_T_mayGet 45 = .ok (.iaload, 1) := by decide +kernel
theorem d_T_mayGet_46 : decode c_T_mayGet 46 = .ok (.iconst 1, 1) := by decide +kernel
theorem d_T_mayGet_47 : decode c_T_mayGet 47 = .ok (.if_icmp .eq 33, 3) := by decide +kernel
theorem d_T_mayGet_50 : decode c_T_mayGet 50 = .ok (.aload_n 0, 1) := by decide +kernel
theorem d_T_mayGet_51 : decode c_T_mayGet 51 = .ok (.getfield 31, 3) := by decide +kernel
theorem d_T_mayGet_54 : decode c_T_mayGet 54 = .ok (.iload_n 2, 1) := by decide +kernel
theorem d_T_mayGet_55 : decode c_T_mayGet 55 = .ok (.iaload, 1) := by decide +kernel
theorem d_T_mayGet_56 : decode c_T_mayGet 56 = .ok (.iconst 3, 1) := by decide +kernel
theorem d_T_mayGet_57 : decode c_T_mayGet 57 = .ok (.if_icmp .eq 23, 3) := by decide +kernel
theorem d_T_mayGet_60 : decode c_T_mayGet 60 = .ok (.aload_n 0, 1) := by decide +kernel
theorem d_T_mayGet_61 : decode c_T_mayGet 61 = .ok (.getfield 31, 3) := by decide +kernel
theorem d_T_mayGet_64 : decode c_T_mayGet 64 = .ok (.iload_n 2, 1) := by decide +kernel
theorem d_T_mayGet_65 : decode c_T_mayGet 65 = .ok (.iaload, 1) := by decide +kernel
theorem d_T_mayGet_66 : decode c_T_mayGet 66 = .ok (.iconst 2, 1) := by decide +kernel
theorem d_T_mayGet_67 : decode c_T_mayGet 67 = .ok (.if_icmp .ne 15, 3) := by decide +kernel
theorem d_T_mayGet_70 : decode c_T_mayGet 70 = .ok (.aload_n 0, 1) := by decide +kernel
theorem d_T_mayGet_71 : decode c_T_mayGet 71 = .ok (.getfield 37, 3) := by decide +kernel
theorem d_T_mayGet_74 : decode c_T_mayGet 74 = .ok (.iload_n 2, 1) := by decide +kernel
theorem d_T_mayGet_75 : decode c_T_mayGet 75 = .ok (.iaload, 1) := by decide +kernel
theorem d_T_mayGet_76 : decode c_T_mayGet 76 = .ok (.iconst 3, 1) := by decide +kernel
theorem d_T_mayGet_77 : decode c_T_mayGet 77 = .ok (.if_icmp .ne 5, 3) := by decide +kernel
theorem d_T_mayGet_80 : decode c_T_mayGet 80 = .ok (.iconst 1, 1) := by decide +kernel
theorem d_T_mayGet_81 : decode c_T_mayGet 81 = .ok (.ireturn, 1) := by decide +kernel
theorem d_T_mayGet_82 : decode c_T_mayGet 82 = .ok (.iload_n 1, 1) := by decide +kernel
theorem d_T_mayGet_83 : decode c_T_mayGet 83 = .ok (.invokestatic 137, 3) := by decide +kernel
theorem d_T_mayGet_86 : decode c_T_mayGet 86 = .ok (.aload_n 0, 1) := by decide +kernel
theorem d_T_mayGet_87 : decode c_T_mayGet 87 = .ok (.iload_n 2, 1) := by decide +kernel
theorem d_T_mayGet_88 : decode c_T_mayGet 88 = .ok (.invokevirtual 122, 3) := by decide +kernel
theorem d_T_mayGet_91 : decode c_T_mayGet 91 = .ok (.if_icmp .ge 32, 3) := by decide +kernel
theorem d_T_mayGet_94 : decode c_T_mayGet 94 = .ok (.aload_n 0, 1) := by decide +kernel
theorem d_T_mayGet_95 : decode c_T_mayGet 95 = .ok (.getfield 31, 3) := by decide +kernel
theorem d_T_mayGet_98 : decode c_T_mayGet 98 = .ok (.iload_n 2, 1) := by decide +kernel
theorem d_T_mayGet_99 : decode c_T_mayGet 99 = .ok (.iaload, 1) := by decide +kernel
theorem d_T_mayGet_100 : decode c_T_mayGet 100 = .ok (.iconst 3, 1) := by decide +kernel
theorem d_T_mayGet_101 : decode c_T_mayGet 101 = .ok (.if_icmp .eq 18, 3) := by decide +kernel
theorem d_T_mayGet_104 : decode c_T_mayGet 104 = .ok (.aload_n 0, 1) := by decide +kernel
theorem d_T_mayGet_105 : decode c_T_mayGet 105 = .ok (.getfield 34, 3) := by decide +kernel
theorem d_T_mayGet_108 : decode c_T_mayGet 108 = .ok (.iload_n 2, 1) := by decide +kernel
theorem d_T_mayGet_109 : decode c_T_mayGet 109 = .ok (.iaload, 1) := by decide +kernel
theorem d_T_mayGet_110 : decode c_T_mayGet 110 = .ok (.aload_n 0, 1) := by decide +kernel
theorem d_T_mayGet_111 : decode c_T_mayGet 111 = .ok (.getfield 59, 3) := by decide +kernel
theorem d_T_mayGet_114 : decode c_T_mayGet 114 = .ok (.iload_n 1, 1) := by decide +kernel
theorem d_T_mayGet_115 : decode c_T_mayGet 115 = .ok (.iaload, 1) := by decide +kernel
theorem d_T_mayGet_116 : decode c_T_mayGet 116 = .ok (.if_icmp .lt 7, 3) := by decide +kernel
theorem d_T_mayGet_119 : decode c_T_mayGet 119 = .ok (.iconst 1, 1) := by decide +kernel
theorem d_T_mayGet_120 : decode c_T_mayGet 120 = .ok (.goto 4, 3) := by decide +kernel
theorem d_T_mayGet_123 : decode c_T_mayGet 123 = .ok (.iconst 0, 1) := by decide +kernel
theorem d_T_mayGet_124 : decode c_T_mayGet 124 = .ok (.ireturn, 1) := by decide +kernel
theorem d_T_offer_0 : decode c_T_offer 0 = .ok (.aload_n 0, 1) := by decide +kernel
theorem d_T_offer_1 : decode c_T_offer 1 = .ok (.getfield 65, 3) := by decide +kernel
theorem d_T_offer_4 : decode c_T_offer 4 = .ok (.iload_n 1, 1) := by decide +kernel
theorem d_T_offer_5 : decode c_T_offer 5 = .ok (.iaload, 1) := by decide +kernel
theorem d_T_offer_6 : decode c_T_offer 6 = .ok (.iconst (-1), 1) := by decide +kernel
theorem d_T_offer_7 : decode c_T_offer 7 = .ok (.if_icmp .eq 25, 3) := by decide +kernel
theorem d_T_offer_10 : decode c_T_offer 10 = .ok (.aload_n 0, 1) := by decide +kernel
theorem d_T_offer_11 : decode c_T_offer 11 = .ok (.getfield 31, 3) := by decide +kernel
theorem d_T_offer_14 : decode c_T_offer 14 = .ok (.aload_n 0, 1) := by decide +kernel
theorem d_T_offer_15 : decode c_T_offer 15 = .ok (.getfield 65, 3) := by decide +kernel
theorem d_T_offer_18 : decode c_T_offer 18 = .ok (.iload_n 1, 1) := by decide +kernel
theorem d_T_offer_19 : decode c_T_offer 19 = .ok (.iaload, 1) := by decide +kernel
theorem d_T_offer_20 : decode c_T_offer 20 = .ok (.iaload, 1) := by decide +kernel
theorem d_T_offer_21 : decode c_T_offer 21 = .ok (.iconst 4, 1) := by decide +kernel
theorem d_T_offer_22 : decode c_T_offer 22 = .ok (.if_icmp .eq 10, 3) := by decide +kernel
theorem d_T_offer_25 : decode c_T_offer 25 = .ok (.aload_n 0, 1) := by decide +kernel
theorem d_T_offer_26 : decode c_T_offer 26 = .ok (.getfield 65, 3) := by decide +kernel
theorem d_T_offer_29 : decode c_T_offer 29 = .ok (.iload_n 1, 1) := by decide +kernel
theorem d_T_offer_30 : decode c_T_offer 30 = .ok (.iaload, 1) := by decide +kernel
theorem d_T_offer_31 : decode c_T_offer 31 = .ok (.ireturn, 1) := by decide +kernel
theorem d_T_offer_32 : decode c_T_offer 32 = .ok (.iconst (-1), 1) := by decide +kernel
theorem d_T_offer_33 : decode c_T_offer 33 = .ok (.istore_n 2, 1) := by decide +kernel
theorem d_T_offer_34 : decode c_T_offer 34 = .ok (.iconst 0, 1) := by decide +kernel
theorem d_T_offer_35 : decode c_T_offer 35 = .ok (.istore_n 3, 1) := by decide +kernel
theorem d_T_offer_36 : decode c_T_offer 36 = .ok (.iload_n 3, 1) := by decide +kernel
theorem d_T_offer_37 : decode c_T_offer 37 = .ok (.aload_n 0, 1) := by decide +kernel
theorem d_T_offer_38 : decode c_T_offer 38 = .ok (.getfield 93, 3) := by decide +kernel
theorem d_T_offer_41 : decode c_T_offer 41 = .ok (.if_icmp .ge 24, 3) := by decide +kernel
theorem d_T_offer_44 : decode c_T_offer 44 = .ok (.aload_n 0, 1) := by decide +kernel
theorem d_T_offer_45 : decode c_T_offer 45 = .ok (.iload_n 1, 1) := by decide +kernel
theorem d_T_offer_46 : decode c_T_offer 46 = .ok (.iload_n 3, 1) := by decide +kernel
theorem d_T_offer_47 : decode c_T_offer 47 = .ok (.invokevirtual 144, 3) := by decide +kernel
theorem d_T_offer_50 : decode c_T_offer 50 = .ok (.ifCond .eq 7, 3) := by decide +kernel
theorem d_T_offer_53 : decode c_T_offer 53 = .ok (.iload_n 3, 1) := by decide +kernel
theorem d_T_offer_54 : decode c_T_offer 54 = .ok (.goto 4, 3) := by decide +kernel
theorem d_T_offer_57 : decode c_T_offer 57 = .ok (.iload_n 2, 1) := by decide +kernel
theorem d_T_offer_58 : decode c_T_offer 58 = .ok (.istore_n 2, 1) := by decide +kernel
theorem d_T_offer_59 : decode c_T_offer 59 = .ok (.iinc 3 1, 3) := by decide +kernel
theorem d_T_offer_62 : decode c_T_offer 62 = .ok (.goto (-26), 3) := by decide +kernel
theorem d_T_offer_65 : decode c_T_offer 65 = .ok (.aload_n 0, 1) := by decide +kernel
theorem d_T_offer_66 : decode c_T_offer 66 = .ok (.getfield 62, 3) := by decide +kernel
theorem d_T_offer_69 : decode c_T_offer 69 = .ok (.iload_n 1, 1) := by decide +kernel
theorem d_T_offer_70 : decode c_T_offer 70 = .ok (.iaload, 1) := by decide +kernel
theorem d_T_offer_71 : decode c_T_offer 71 = .ok (.istore_n 3, 1) := by decide +kernel
theorem d_T_offer_72 : decode c_T_offer 72 = .ok (.iload_n 3, 1) := by decide +kernel
theorem d_T_offer_73 : decode c_T_offer 73 = .ok (.iload_n 2, 1) := by decide +kernel
theorem d_T_offer_74 : decode c_T_offer 74 = .ok (.if_icmp .le 46, 3) := by decide +kernel
theorem d_T_offer_77 : decode c_T_offer 77 = .ok (.aload_n 0, 1) := by decide +kernel
theorem d_T_offer_78 : decode c_T_offer 78 = .ok (.getfield 7, 3) := by decide +kernel
theorem d_T_offer_81 : decode c_T_offer 81 = .ok (.iload_n 3, 1) := by decide +kernel
theorem d_T_offer_82 : decode c_T_offer 82 = .ok (.iaload, 1) := by decide +kernel
theorem d_T_offer_83 : decode c_T_offer 83 = .ok (.aload_n 0, 1) := by decide +kernel
theorem d_T_offer_84 : decode c_T_offer 84 = .ok (.getfield 56, 3) := by decide +kernel
theorem d_T_offer_87 : decode c_T_offer 87 = .ok (.iload_n 1, 1) := by decide +kernel
theorem d_T_offer_88 : decode c_T_offer 88 = .ok (.iaload, 1) := by decide +kernel
theorem d_T_offer_89 : decode c_T_offer 89 = .ok (.if_icmp .ne 31, 3) := by decide +kernel
theorem d_T_offer_92 : decode c_T_offer 92 = .ok (.aload_n 0, 1) := by decide +kernel
theorem d_T_offer_93 : decode c_T_offer 93 = .ok (.getfield 31, 3) := by decide +kernel
theorem d_T_offer_96 : decode c_T_offer 96 = .ok (.iload_n 3, 1) := by decide +kernel
theorem d_T_offer_97 : decode c_T_offer 97 = .ok (.iaload, 1) := by decide +kernel
theorem d_T_offer_98 : decode c_T_offer 98 = .ok (.iconst 4, 1) := by decide +kernel
theorem d_T_offer_99 : decode c_T_offer 99 = .ok (.if_icmp .eq 21, 3) := by decide +kernel
theorem d_T_offer_102 : decode c_T_offer 102 = .ok (.aload_n 0, 1) := by decide +kernel
theorem d_T_offer_103 : decode c_T_offer 103 = .ok (.aload_n 0, 1) := by decide +kernel
theorem d_T_offer_104 : decode c_T_offer 104 = .ok (.getfield 7, 3) := by decide +kernel
theorem d_T_offer_107 : decode c_T_offer 107 = .ok (.iload_n 3, 1) := by decide +kernel
theorem d_T_offer_108 : decode c_T_offer 108 = .ok (.iaload, 1) := by decide +kernel
theorem d_T_offer_109 : decode c_T_offer 109 = .ok (.iload_n 3, 1) := by decide +kernel
theorem d_T_offer_110 : decode c_T_offer 110 = .ok (.invokevirtual 140, 3) := by decide +kernel
theorem d_T_offer_113 : decode c_T_offer 113 = .ok (.ifCond .ne 7, 3) := by decide +kernel
theorem d_T_offer_116 : decode c_T_offer 116 = .ok (.iload_n 3, 1) := by decide +kernel
theorem d_T_offer_117 : decode c_T_offer 117 = .ok (.goto 4, 3) := by decide +kernel
theorem d_T_offer_120 : decode c_T_offer 120 = .ok (.iload_n 2, 1) := by decide +kernel
theorem d_T_offer_121 : decode c_T_offer 121 = .ok (.ireturn, 1) := by decide +kernel
theorem d_T_offered_0 : decode c_T_offered 0 = .ok (.aload_n 0, 1) := by decide +kernel
theorem d_T_offered_1 : decode c_T_offered 1 = .ok (.iconst 0, 1) := by decide +kernel
theorem d_T_offered_2 : decode c_T_offered 2 = .ok (.putfield 89, 3) := by decide +kernel
theorem d_T_offered_5 : decode c_T_offered 5 = .ok (.aload_n 0, 1) := by decide +kernel
theorem d_T_offered_6 : decode c_T_offered 6 = .ok (.iload_n 1, 1) := by decide +kernel
theorem d_T_offered_7 : decode c_T_offered 7 = .ok (.invokevirtual 134, 3) := by decide +kernel
theorem d_T_offered_10 : decode c_T_offered 10 = .ok (.ifCond .eq 11, 3) := by decide +kernel
theorem d_T_offered_13 : decode c_T_offered 13 = .ok (.aload_n 0, 1) := by decide +kernel
theorem d_T_offered_14 : decode c_T_offered 14 = .ok (.iload_n 1, 1) := by decide +kernel
theorem d_T_offered_15 : decode c_T_offered 15 = .ok (.invokevirtual 147, 3) := by decide +kernel
theorem d_T_offered_18 : decode c_T_offered 18 = .ok (.goto 4, 3) := by decide +kernel
