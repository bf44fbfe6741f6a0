theorem d_T_release_60 : decode c_T_release 60 = .ok (.getfield 93, 3) := by decide +kernel
theorem d_T_release_63 : decode c_T_release 63 = .ok (.iload_n 3, 1) := by decide +kernel
theorem d_T_release_64 : decode c_T_release 64 = .ok (.iastore, 1) := by decide +kernel
theorem d_T_release_65 : decode c_T_release 65 = .ok (.aload_n 0, 1) := by decide +kernel
theorem d_T_release_66 : decode c_T_release 66 = .ok (.getfield 25, 3) := by decide +kernel
theorem d_T_release_69 : decode c_T_release 69 = .ok (.aload_n 0, 1) := by decide +kernel
theorem d_T_release_70 : decode c_T_release 70 = .ok (.getfield 93, 3) := by decide +kernel
theorem d_T_release_73 : decode c_T_release 73 = .ok (.iconst 1, 1) := by decide +kernel
theorem d_T_release_74 : decode c_T_release 74 = .ok (.iastore, 1) := by decide +kernel
theorem d_T_release_75 : decode c_T_release 75 = .ok (.aload_n 0, 1) := by decide +kernel
theorem d_T_release_76 : decode c_T_release 76 = .ok (.getfield 28, 3) := by decide +kernel
theorem d_T_release_79 : decode c_T_release 79 = .ok (.aload_n 0, 1) := by decide +kernel
theorem d_T_release_80 : decode c_T_release 80 = .ok (.getfield 93, 3) := by decide +kernel
theorem d_T_release_83 : decode c_T_release 83 = .ok (.iconst 1, 1) := by decide +kernel
theorem d_T_release_84 : decode c_T_release 84 = .ok (.iastore, 1) := by decide +kernel
theorem d_T_release_85 : decode c_T_release 85 = .ok (.aload_n 0, 1) := by decide +kernel
theorem d_T_release_86 : decode c_T_release 86 = .ok (.dup, 1) := by decide +kernel
theorem d_T_release_87 : decode c_T_release 87 = .ok (.getfield 93, 3) := by decide +kernel
theorem d_T_release_90 : decode c_T_release 90 = .ok (.iconst 1, 1) := by decide +kernel
theorem d_T_release_91 : decode c_T_release 91 = .ok (.iadd, 1) := by decide +kernel
theorem d_T_release_92 : decode c_T_release 92 = .ok (.putfield 93, 3) := by decide +kernel
theorem d_T_release_95 : decode c_T_release 95 = .ok (.aload_n 0, 1) := by decide +kernel
theorem d_T_release_96 : decode c_T_release 96 = .ok (.getfield 93, 3) := by decide +kernel
theorem d_T_release_99 : decode c_T_release 99 = .ok (.iconst 1, 1) := by decide +kernel
theorem d_T_release_100 : decode c_T_release 100 = .ok (.isub, 1) := by decide +kernel
theorem d_T_release_101 : decode c_T_release 101 = .ok (.ireturn, 1) := by decide +kernel
theorem d_T_stage_0 : decode c_T_stage 0 = .ok (.aload_n 0, 1) := by decide +kernel
theorem d_T_stage_1 : decode c_T_stage 1 = .ok (.iconst 0, 1) := by decide +kernel
theorem d_T_stage_2 : decode c_T_stage 2 = .ok (.putfield 89, 3) := by decide +kernel
theorem d_T_stage_5 : decode c_T_stage 5 = .ok (.aload_n 0, 1) := by decide +kernel
theorem d_T_stage_6 : decode c_T_stage 6 = .ok (.iload_n 1, 1) := by decide +kernel
theorem d_T_stage_7 : decode c_T_stage 7 = .ok (.invokevirtual 104, 3) := by decide +kernel
theorem d_T_stage_10 : decode c_T_stage 10 = .ok (.ifCond .eq 44, 3) := by decide +kernel
theorem d_T_stage_13 : decode c_T_stage 13 = .ok (.aload_n 0, 1) := by decide +kernel
theorem d_T_stage_14 : decode c_T_stage 14 = .ok (.getfield 31, 3) := by decide +kernel
theorem d_T_stage_17 : decode c_T_stage 17 = .ok (.iload_n 1, 1) := by decide +kernel
theorem d_T_stage_18 : decode c_T_stage 18 = .ok (.iaload, 1) := by decide +kernel
theorem d_T_stage_19 : decode c_T_stage 19 = .ok (.ifCond .ne 35, 3) := by decide +kernel
theorem d_T_stage_22 : decode c_T_stage 22 = .ok (.aload_n 0, 1) := by decide +kernel
theorem d_T_stage_23 : decode c_T_stage 23 = .ok (.getfield 16, 3) := by decide +kernel
theorem d_T_stage_26 : decode c_T_stage 26 = .ok (.iload_n 1, 1) := by decide +kernel
theorem d_T_stage_27 : decode c_T_stage 27 = .ok (.iaload, 1) := by decide +kernel
theorem d_T_stage_28 : decode c_T_stage 28 = .ok (.iconst 5, 1) := by decide +kernel
theorem d_T_stage_29 : decode c_T_stage 29 = .ok (.if_icmp .eq 25, 3) := by decide +kernel
theorem d_T_stage_32 : decode c_T_stage 32 = .ok (.iload_n 2, 1) := by decide +kernel
theorem d_T_stage_33 : decode c_T_stage 33 = .ok (.iconst 0, 1) := by decide +kernel
theorem d_T_stage_34 : decode c_T_stage 34 = .ok (.sipush 1000, 3) := by decide +kernel
theorem d_T_stage_37 : decode c_T_stage 37 = .ok (.invokestatic 99, 3) := by decide +kernel
theorem d_T_stage_40 : decode c_T_stage 40 = .ok (.ifCond .eq 14, 3) := by decide +kernel
theorem d_T_stage_43 : decode c_T_stage 43 = .ok (.iload_n 3, 1) := by decide +kernel
theorem d_T_stage_44 : decode c_T_stage 44 = .ok (.iconst 0, 1) := by decide +kernel
theorem d_T_stage_45 : decode c_T_stage 45 = .ok (.sipush 1000, 3) := by decide +kernel
theorem d_T_stage_48 : decode c_T_stage 48 = .ok (.invokestatic 99, 3) := by decide +kernel
theorem d_T_stage_51 : decode c_T_stage 51 = .ok (.ifCond .ne 5, 3) := by decide +kernel
theorem d_T_stage_54 : decode c_T_stage 54 = .ok (.iconst 0, 1) := by decide +kernel
theorem d_T_stage_55 : decode c_T_stage 55 = .ok (.ireturn, 1) := by decide +kernel
theorem d_T_stage_56 : decode c_T_stage 56 = .ok (.aload_n 0, 1) := by decide +kernel
theorem d_T_stage_57 : decode c_T_stage 57 = .ok (.getfield 16, 3) := by decide +kernel
theorem d_T_stage_60 : decode c_T_stage 60 = .ok (.iload_n 1, 1) := by decide +kernel
theorem d_T_stage_61 : decode c_T_stage 61 = .ok (.iaload, 1) := by decide +kernel
theorem d_T_stage_62 : decode c_T_stage 62 = .ok (.ifCond .le 26, 3) := by decide +kernel
theorem d_T_stage_65 : decode c_T_stage 65 = .ok (.iload_n 2, 1) := by decide +kernel
theorem d_T_stage_66 : decode c_T_stage 66 = .ok (.aload_n 0, 1) := by decide +kernel
theorem d_T_stage_67 : decode c_T_stage 67 = .ok (.getfield 19, 3) := by decide +kernel
theorem d_T_stage_70 : decode c_T_stage 70 = .ok (.iconst 5, 1) := by decide +kernel
theorem d_T_stage_71 : decode c_T_stage 71 = .ok (.iload_n 1, 1) := by decide +kernel
theorem d_T_stage_72 : decode c_T_stage 72 = .ok (.imul, 1) := by decide +kernel
theorem d_T_stage_73 : decode c_T_stage 73 = .ok (.aload_n 0, 1) := by decide +kernel
theorem d_T_stage_74 : decode c_T_stage 74 = .ok (.getfield 16, 3) := by decide +kernel
theorem d_T_stage_77 : decode c_T_stage 77 = .ok (.iload_n 1, 1) := by decide +kernel
theorem d_T_stage_78 : decode c_T_stage 78 = .ok (.iaload, 1) := by decide +kernel
theorem d_T_stage_79 : decode c_T_stage 79 = .ok (.iadd, 1) := by decide +kernel
theorem d_T_stage_80 : decode c_T_stage 80 = .ok (.iconst 1, 1) := by decide +kernel
theorem d_T_stage_81 : decode c_T_stage 81 = .ok (.isub, 1) := by decide +kernel
theorem d_T_stage_82 : decode c_T_stage 82 = .ok (.iaload, 1) := by decide +kernel
theorem d_T_stage_83 : decode c_T_stage 83 = .ok (.if_icmp .ge 5, 3) := by decide +kernel
theorem d_T_stage_86 : decode c_T_stage 86 = .ok (.iconst 0, 1) := by decide +kernel
theorem d_T_stage_87 : decode c_T_stage 87 = .ok (.ireturn, 1) := by decide +kernel
theorem d_T_stage_88 : decode c_T_stage 88 = .ok (.aload_n 0, 1) := by decide +kernel
theorem d_T_stage_89 : decode c_T_stage 89 = .ok (.getfield 19, 3) := by decide +kernel
theorem d_T_stage_92 : decode c_T_stage 92 = .ok (.iconst 5, 1) := by decide +kernel
theorem d_T_stage_93 : decode c_T_stage 93 = .ok (.iload_n 1, 1) := by decide +kernel
theorem d_T_stage_94 : decode c_T_stage 94 = .ok (.imul, 1) := by decide +kernel
theorem d_T_stage_95 : decode c_T_stage 95 = .ok (.aload_n 0, 1) := by decide +kernel
theorem d_T_stage_96 : decode c_T_stage 96 = .ok (.getfield 16, 3) := by decide +kernel
theorem d_T_stage_99 : decode c_T_stage 99 = .ok (.iload_n 1, 1) := by decide +kernel
theorem d_T_stage_100 : decode c_T_stage 100 = .ok (.iaload, 1) := by decide +kernel
theorem d_T_stage_101 : decode c_T_stage 101 = .ok (.iadd, 1) := by decide +kernel
theorem d_T_stage_102 : decode c_T_stage 102 = .ok (.iload_n 2, 1) := by decide +kernel
theorem d_T_stage_103 : decode c_T_stage 103 = .ok (.iastore, 1) := by decide +kernel
theorem d_T_stage_104 : decode c_T_stage 104 = .ok (.aload_n 0, 1) := by decide +kernel
theorem d_T_stage_105 : decode c_T_stage 105 = .ok (.getfield 22, 3) := by decide +kernel
theorem d_T_stage_108 : decode c_T_stage 108 = .ok (.iconst 5, 1) := by decide +kernel
theorem d_T_stage_109 : decode c_T_stage 109 = .ok (.iload_n 1, 1) := by decide +kernel
theorem d_T_stage_110 : decode c_T_stage 110 = .ok (.imul, 1) := by decide +kernel
theorem d_T_stage_111 : decode c_T_stage 111 = .ok (.aload_n 0, 1) := by decide +kernel
theorem d_T_stage_112 : decode c_T_stage 112 = .ok (.getfield 16, 3) := by decide +kernel
theorem d_T_stage_115 : decode c_T_stage 115 = .ok (.iload_n 1, 1) := by decide +kernel
theorem d_T_stage_116 : decode c_T_stage 116 = .ok (.iaload, 1) := by decide +kernel
theorem d_T_stage_117 : decode c_T_stage 117 = .ok (.iadd, 1) := by decide +kernel
theorem d_T_stage_118 : decode c_T_stage 118 = .ok (.iload_n 3, 1) := by decide +kernel
theorem d_T_stage_119 : decode c_T_stage 119 = .ok (.iastore, 1) := by decide +kernel
theorem d_T_stage_120 : decode c_T_stage 120 = .ok (.aload_n 0, 1) := by decide +kernel
theorem d_T_stage_121 : decode c_T_stage 121 = .ok (.getfield 16, 3) := by decide +kernel
theorem d_T_stage_124 : decode c_T_stage 124 = .ok (.iload_n 1, 1) := by decide +kernel
theorem d_T_stage_125 : decode c_T_stage 125 = .ok (.dup2, 1) := by decide +kernel
theorem d_T_stage_126 : decode c_T_stage 126 = .ok (.iaload, 1) := by decide +kernel
theorem d_T_stage_127 : decode c_T_stage 127 = .ok (.iconst 1, 1) := by decide +kernel
theorem d_T_stage_128 : decode c_T_stage 128 = .ok (.iadd, 1) := by decide +kernel
theorem d_T_stage_129 : decode c_T_stage 129 = .ok (.iastore, 1) := by decide +kernel
theorem d_T_stage_130 : decode c_T_stage 130 = .ok (.iconst 1, 1) := by decide +kernel
theorem d_T_stage_131 : decode c_T_stage 131 = .ok (.ireturn, 1) := by decide +kernel
theorem d_T_health_0 : decode c_T_health 0 = .ok (.aload_n 0, 1) := by decide +kernel
theorem d_T_health_1 : decode c_T_health 1 = .ok (.iconst 0, 1) := by decide +kernel
theorem d_T_health_2 : decode c_T_health 2 = .ok (.putfield 89, 3) := by decide +kernel
theorem d_T_health_5 : decode c_T_health 5 = .ok (.aload_n 0, 1) := by decide +kernel
theorem d_T_health_6 : decode c_T_health 6 = .ok (.iload_n 1, 1) := by decide +kernel
theorem d_T_health_7 : decode c_T_health 7 = .ok (.invokevirtual 104, 3) := by decide +kernel
theorem d_T_health_10 : decode c_T_health 10 = .ok (.ifCond .eq 23, 3) := by decide +kernel
theorem d_T_health_13 : decode c_T_health 13 = .ok (.iload_n 3, 1) := by decide +kernel
theorem d_T_health_14 : decode c_T_health 14 = .ok (.iconst 1, 1) := by decide +kernel
theorem d_T_health_15 : decode c_T_health 15 = .ok (.sipush 1000, 3) := by decide +kernel
theorem d_T_health_18 : decode c_T_health 18 = .ok (.invokestatic 99, 3) := by decide +kernel
theorem d_T_health_21 : decode c_T_health 21 = .ok (.ifCond .eq 12, 3) := by decide +kernel
theorem d_T_health_24 : decode c_T_health 24 = .ok (.iload_n 2, 1) := by decide +kernel
theorem d_T_health_25 : decode c_T_health 25 = .ok (.iconst 0, 1) := by decide +kernel
theorem d_T_health_26 : decode c_T_health 26 = .ok (.iload_n 3, 1) := by decide +kernel
theorem d_T_health_27 : decode c_T_health 27 = .ok (.invokestatic 99, 3) := by decide +kernel
theorem d_T_health_30 : decode c_T_health 30 = .ok (.ifCond .ne 5, 3) := by decide +kernel
theorem d_T_health_33 : decode c_T_health 33 = .ok (.iconst 0, 1) := by decide +kernel
theorem d_T_health_34 : decode c_T_health 34 = .ok (.ireturn, 1) := by decide +kernel
theorem d_T_health_35 : decode c_T_health 35 = .ok (.aload_n 0, 1) := by decide +kernel
theorem d_T_health_36 : decode c_T_health 36 = .ok (.getfield 25, 3) := by decide +kernel
theorem d_T_health_39 : decode c_T_health 39 = .ok (.iload_n 1, 1) := by decide +kernel
theorem d_T_health_40 : decode c_T_health 40 = .ok (.iload_n 2, 1) := by decide +kernel
theorem d_T_health_41 : decode c_T_health 41 = .ok (.iastore, 1) := by decide +kernel
theorem d_T_health_42 : decode c_T_health 42 = .ok (.aload_n 0, 1) := by decide +kernel
theorem d_T_health_43 : decode c_T_health 43 = .ok (.getfield 28, 3) := by decide +kernel
theorem d_T_health_46 : decode c_T_health 46 = .ok (.iload_n 1, 1) := by decide +kernel
theorem d_T_health_47 : decode c_T_health 47 = .ok (.iload_n 3, 1) := by decide +kernel
theorem d_T_health_48 : decode c_T_health 48 = .ok (.iastore, 1) := by decide +kernel
theorem d_T_health_49 : decode c_T_health 49 = .ok (.iconst 1, 1) := by decide +kernel
theorem d_T_health_50 : decode c_T_health 50 = .ok (.ireturn, 1) := by decide +kernel
theorem d_T_begin_0 : decode c_T_begin 0 = .ok (.aload_n 0, 1) := by decide +kernel
theorem d_T_begin_1 : decode c_T_begin 1 = .ok (.getfield 31, 3) := by decide +kernel
theorem d_T_begin_4 : decode c_T_begin 4 = .ok (.iload_n 1, 1) := by decide +kernel
theorem d_T_begin_5 : decode c_T_begin 5 = .ok (.iconst 1, 1) := by decide +kernel
theorem d_T_begin_6 : decode c_T_begin 6 = .ok (.iastore, 1) := by decide +kernel
theorem d_T_begin_7 : decode c_T_begin 7 = .ok (.aload_n 0, 1) := by decide +kernel
theorem d_T_begin_8 : decode c_T_begin 8 = .ok (.getfield 37, 3) := by decide +kernel
theorem d_T_begin_11 : decode c_T_begin 11 = .ok (.iload_n 1, 1) := by decide +kernel
theorem d_T_begin_12 : decode c_T_begin 12 = .ok (.iconst 0, 1) := by decide +kernel
theorem d_T_begin_13 : decode c_T_begin 13 = .ok (.iastore, 1) := by decide +kernel
theorem d_T_begin_14 : decode c_T_begin 14 = .ok (.aload_n 0, 1) := by decide +kernel
theorem d_T_begin_15 : decode c_T_begin 15 = .ok (.getfield 34, 3) := by decide +kernel
theorem d_T_begin_18 : decode c_T_begin 18 = .ok (.iload_n 1, 1) := by decide +kernel
theorem d_T_begin_19 : decode c_T_begin 19 = .ok (.iload_n 2, 1) := by decide +kernel
theorem d_T_begin_20 : decode c_T_begin 20 = .ok (.iastore, 1) := by decide +kernel
theorem d_T_begin_21 : decode c_T_begin 21 = .ok (.aload_n 0, 1) := by decide +kernel
theorem d_T_begin_22 : decode c_T_begin 22 = .ok (.getfield 40, 3) := by decide +kernel
theorem d_T_begin_25 : decode c_T_begin 25 = .ok (.iload_n 1, 1) := by decide +kernel
theorem d_T_begin_26 : decode c_T_begin 26 = .ok (.aload_n 0, 1) := by decide +kernel
theorem d_T_begin_27 : decode c_T_begin 27 = .ok (.getfield 108, 3) := by decide +kernel
theorem d_T_begin_30 : decode c_T_begin 30 = .ok (.iastore, 1) := by decide +kernel
theorem d_T_begin_31 : decode c_T_begin 31 = .ok (.aload_n 0, 1) := by decide +kernel
theorem d_T_begin_32 : decode c_T_begin 32 = .ok (.getfield 43, 3) := by decide +kernel
theorem d_T_begin_35 : decode c_T_begin 35 = .ok (.iload_n 1, 1) := by decide +kernel
theorem d_T_begin_36 : decode c_T_begin 36 = .ok (.iconst 0, 1) := by decide +kernel
theorem d_T_begin_37 : decode c_T_begin 37 = .ok (.iastore, 1) := by decide +kernel
theorem d_T_begin_38 : decode c_T_begin 38 = .ok (.aload_n 0, 1) := by decide +kernel
theorem d_T_begin_39 : decode c_T_begin 39 = .ok (.getfield 46, 3) := by decide +kernel
theorem d_T_begin_42 : decode c_T_begin 42 = .ok (.iload_n 1, 1) := by decide +kernel
theorem d_T_begin_43 : decode c_T_begin 43 = .ok (.iconst 0, 1) := by decide +kernel
theorem d_T_begin_44 : decode c_T_begin 44 = .ok (.iastore, 1) := by decide +kernel
theorem d_T_begin_45 : decode c_T_begin 45 = .ok (.return_, 1) := by decide +kernel
theorem d_T_start_0 : decode c_T_start 0 = .ok (.aload_n 0, 1) := by decide +kernel
theorem d_T_start_1 : decode c_T_start 1 = .ok (.iconst 0, 1) := by decide +kernel
theorem d_T_start_2 : decode c_T_start 2 = .ok (.putfield 89, 3) := by decide +kernel
theorem d_T_start_5 : decode c_T_start 5 = .ok (.aload_n 0, 1) := by decide +kernel
theorem d_T_start_6 : decode c_T_start 6 = .ok (.iload_n 1, 1) := by decide +kernel
theorem d_T_start_7 : decode c_T_start 7 = .ok (.invokevirtual 104, 3) := by decide +kernel
theorem d_T_start_10 : decode c_T_start 10 = .ok (.ifCond .eq 21, 3) := by decide +kernel
theorem d_T_start_13 : decode c_T_start 13 = .ok (.aload_n 0, 1) := by decide +kernel
theorem d_T_start_14 : decode c_T_start 14 = .ok (.getfield 31, 3) := by decide +kernel
theorem d_T_start_17 : decode c_T_start 17 = .ok (.iload_n 1, 1) := by decide +kernel
theorem d_T_start_18 : decode c_T_start 18 = .ok (.iaload, 1) := by decide +kernel
theorem d_T_start_19 : decode c_T_start 19 = .ok (.ifCond .ne 12, 3) := by decide +kernel
theorem d_T_start_22 : decode c_T_start 22 = .ok (.aload_n 0, 1) := by decide +kernel
theorem d_T_start_23 : decode c_T_start 23 = .ok (.getfield 16, 3) := by decide +kernel
theorem d_T_start_26 : decode c_T_start 26 = .ok (.iload_n 1, 1) := by decide +kernel
theorem d_T_start_27 : decode c_T_start 27 = .ok (.iaload, 1) := by decide +kernel
theorem d_T_start_28 : decode c_T_start 28 = .ok (.ifCond .ne 5, 3) := by decide +kernel
theorem d_T_start_31 : decode c_T_start 31 = .ok (.iconst 0, 1) := by decide +kernel
theorem d_T_start_32 : decode c_T_start 32 = .ok (.ireturn, 1) := by decide +kernel
theorem d_T_start_33 : decode c_T_start 33 = .ok (.aload_n 0, 1) := by decide +kernel
theorem d_T_start_34 : decode c_T_start 34 = .ok (.iload_n 1, 1) := by decide +kernel
theorem d_T_start_35 : decode c_T_start 35 = .ok (.iconst 0, 1) := by decide +kernel
theorem d_T_start_36 : decode c_T_start 36 = .ok (.invokevirtual 111, 3) := by decide +kernel
theorem d_T_start_39 : decode c_T_start 39 = .ok (.iconst 1, 1) := by decide +kernel
theorem d_T_start_40 : decode c_T_start 40 = .ok (.ireturn, 1) := by decide +kernel
theorem d_T_report_0 : decode c_T_report 0 = .ok (.aload_n 0, 1) := by decide +kernel
theorem d_T_report_1 : decode c_T_report 1 = .ok (.iconst 0, 1) := by decide +kernel
theorem d_T_report_2 : decode c_T_report 2 = .ok (.putfield 89, 3) := by decide +kernel
theorem d_T_report_5 : decode c_T_report 5 = .ok (.aload_n 0, 1) := by decide +kernel
theorem d_T_report_6 : decode c_T_report 6 = .ok (.iload_n 1, 1) := by decide +kernel
theorem d_T_report_7 : decode c_T_report 7 = .ok (.invokevirtual 104, 3) := by decide +kernel
theorem d_T_report_10 : decode c_T_report 10 = .ok (.ifCond .eq 35, 3) := by decide +kernel
theorem d_T_report_13 : decode c_T_report 13 = .ok (.iload_n 2, 1) := by decide +kernel
theorem d_T_report_14 : decode c_T_report 14 = .ok (.iconst 0, 1) := by decide +kernel
theorem d_T_report_15 : decode c_T_report 15 = .ok (.sipush 10000, 3) := by decide +kernel
theorem d_T_report_18 : decode c_T_report 18 = .ok (.invokestatic 99, 3) := by decide +kernel
theorem d_T_report_21 : decode c_T_report 21 = .ok (.ifCond .eq 24, 3) := by decide +kernel
theorem d_T_report_24 : decode c_T_report 24 = .ok (.iload_n 3, 1) := by decide +kernel
theorem d_T_report_25 : decode c_T_report 25 = .ok (.iconst 0, 1) := by decide +kernel
theorem d_T_report_26 : decode c_T_report 26 = .ok (.sipush 10000, 3) := by decide +kernel
theorem d_T_report_29 : decode c_T_report 29 = .ok (.invokestatic 99, 3) := by decide +kernel
theorem d_T_report_32 : decode c_T_report 32 = .ok (.ifCond .eq 13, 3) := by decide +kernel
theorem d_T_report_35 : decode c_T_report 35 = .ok (.aload_n 0, 1) := by decide +kernel
theorem d_T_report_36 : decode c_T_report 36 = .ok (.getfield 31, 3) := by decide +kernel
theorem d_T_report_39 : decode c_T_report 39 = .ok (.iload_n 1, 1) := by decide +kernel
theorem d_T_report_40 : decode c_T_report 40 = .ok (.iaload, 1) := by decide +kernel
theorem d_T_report_41 : decode c_T_report 41 = .ok (.iconst 1, 1) := by decide +kernel
theorem d_T_report_42 : decode c_T_report 42 = .ok (.if_icmp .eq 5, 3) := by decide +kernel
theorem d_T_report_45 : decode c_T_report 45 = .ok (.iconst 0, 1) := by decide +kernel
theorem d_T_report_46 : decode c_T_report 46 = .ok (.ireturn, 1) := by decide +kernel
theorem d_T_report_47 : decode c_T_report 47 = .ok (.aload_n 0, 1) := by decide +kernel
theorem d_T_report_48 : decode c_T_report 48 = .ok (.getfield 43, 3) := by decide +kernel
theorem d_T_report_51 : decode c_T_report 51 = .ok (.iload_n 1, 1) := by decide +kernel
theorem d_T_report_52 : decode c_T_report 52 = .ok (.dup2, 1) := by decide +kernel
theorem d_T_report_53 : decode c_T_report 53 = .ok (.iaload, 1) := by decide +kernel
theorem d_T_report_54 : decode c_T_report 54 = .ok (.iload_n 2, 1) := by decide +kernel
theorem d_T_report_55 : decode c_T_report 55 = .ok (.iload_n 3, 1) := by decide +kernel
theorem d_T_report_56 : decode c_T_report 56 = .ok (.iadd, 1) := by decide +kernel
theorem d_T_report_57 : decode c_T_report 57 = .ok (.iadd, 1) := by decide +kernel
theorem d_T_report_58 : decode c_T_report 58 = .ok (.iastore, 1) := by decide +kernel
theorem d_T_report_59 : decode c_T_report 59 = .ok (.aload_n 0, 1) := by decide +kernel
theorem d_T_report_60 : decode c_T_report 60 = .ok (.getfield 46, 3) := by decide +kernel
theorem d_T_report_63 : decode c_T_report 63 = .ok (.iload_n 1, 1) := by decide +kernel
theorem d_T_report_64 : decode c_T_report 64 = .ok (.dup2, 1) := by decide +kernel
theorem d_T_report_65 : decode c_T_report 65 = .ok (.iaload, 1) := by decide +kernel
theorem d_T_report_66 : decode c_T_report 66 = .ok (.iload_n 3, 1) := by decide +kernel
theorem d_T_report_67 : decode c_T_report 67 = .ok (.iadd, 1) := by decide +kernel
theorem d_T_report_68 : decode c_T_report 68 = .ok (.iastore, 1) := by decide +kernel
theorem d_T_report_69 : decode c_T_report 69 = .ok (.iconst 1, 1) := by decide +kernel
theorem d_T_report_70 : decode c_T_report 70 = .ok (.ireturn, 1) := by decide +kernel
theorem d_T_halt_0 : decode c_T_halt 0 = .ok (.aload_n 0, 1) := by decide +kernel
theorem d_T_halt_1 : decode c_T_halt 1 = .ok (.getfield 31, 3) := by decide +kernel
theorem d_T_halt_4 : decode c_T_halt 4 = .ok (.iload_n 1, 1) := by decide +kernel
theorem d_T_halt_5 : decode c_T_halt 5 = .ok (.iconst 2, 1) := by decide +kernel
theorem d_T_halt_6 : decode c_T_halt 6 = .ok (.iastore, 1) := by decide +kernel
theorem d_T_halt_7 : decode c_T_halt 7 = .ok (.aload_n 0, 1) := by decide +kernel
theorem d_T_halt_8 : decode c_T_halt 8 = .ok (.getfield 37, 3) := by decide +kernel
theorem d_T_halt_11 : decode c_T_halt 11 = .ok (.iload_n 1, 1) := by decide +kernel
theorem d_T_halt_12 : decode c_T_halt 12 = .ok (.iload_n 2, 1) := by decide +kernel
theorem d_T_halt_13 : decode c_T_halt 13 = .ok (.iastore, 1) := by decide +kernel
theorem d_T_halt_14 : decode c_T_halt 14 = .ok (.return_, 1) := by decide +kernel
theorem d_T_hold_0 : decode c_T_hold 0 = .ok (.aload_n 0, 1) := by decide +kernel
theorem d_T_hold_1 : decode c_T_hold 1 = .ok (.iconst 0, 1) := by decide +kernel
theorem d_T_hold_2 : decode c_T_hold 2 = .ok (.putfield 89, 3) := by decide +kernel
theorem d_T_hold_5 : decode c_T_hold 5 = .ok (.aload_n 0, 1) := by decide +kernel
theorem d_T_hold_6 : decode c_T_hold 6 = .ok (.iload_n 1, 1) := by decide +kernel
theorem d_T_hold_7 : decode c_T_hold 7 = .ok (.invokevirtual 104, 3) := by decide +kernel
theorem d_T_hold_10 : decode c_T_hold 10 = .ok (.ifCond .eq 21, 3) := by decide +kernel
theorem d_T_hold_13 : decode c_T_hold 13 = .ok (.aload_n 0, 1) := by decide +kernel
theorem d_T_hold_14 : decode c_T_hold 14 = .ok (.getfield 31, 3) := by decide +kernel
theorem d_T_hold_17 : decode c_T_hold 17 = .ok (.iload_n 1, 1) := by decide +kernel
theorem d_T_hold_18 : decode c_T_hold 18 = .ok (.iaload, 1) := by decide +kernel
theorem d_T_hold_19 : decode c_T_hold 19 = .ok (.iload_n 2, 1) := by decide +kernel
theorem d_T_hold_20 : decode c_T_hold 20 = .ok (.ifCond .eq 7, 3) := by decide +kernel
theorem d_T_hold_23 : decode c_T_hold 23 = .ok (.iconst 1, 1) := by decide +kernel
theorem d_T_hold_24 : decode c_T_hold 24 = .ok (.goto 4, 3) := by decide +kernel
theorem d_T_hold_27 : decode c_T_hold 27 = .ok (.iconst 2, 1) := by decide +kernel
theorem d_T_hold_28 : decode c_T_hold 28 = .ok (.if_icmp .eq 5, 3) := by decide +kernel
theorem d_T_hold_31 : decode c_T_hold 31 = .ok (.iconst 0, 1) := by decide +kernel
theorem d_T_hold_32 : decode c_T_hold 32 = .ok (.ireturn, 1) := by decide +kernel
theorem d_T_hold_33 : decode c_T_hold 33 = .ok (.iload_n 2, 1) := by decide +kernel
theorem d_T_hold_34 : decode c_T_hold 34 = .ok (.ifCond .eq 12, 3) := by decide +kernel
theorem d_T_hold_37 : decode c_T_hold 37 = .ok (.aload_n 0, 1) := by decide +kernel
theorem d_T_hold_38 : decode c_T_hold 38 = .ok (.iload_n 1, 1) := by decide +kernel
theorem d_T_hold_39 : decode c_T_hold 39 = .ok (.iconst 3, 1) := by decide +kernel
theorem d_T_hold_40 : decode c_T_hold 40 = .ok (.invokevirtual 115, 3) := by decide +kernel
theorem d_T_hold_43 : decode c_T_hold 43 = .ok (.goto 14, 3) := by decide +kernel
theorem d_T_hold_46 : decode c_T_hold 46 = .ok (.aload_n 0, 1) := by decide +kernel
theorem d_T_hold_47 : decode c_T_hold 47 = .ok (.iload_n 1, 1) := by decide +kernel
theorem d_T_hold_48 : decode c_T_hold 48 = .ok (.aload_n 0, 1) := by decide +kernel
theorem d_T_hold_49 : decode c_T_hold 49 = .ok (.getfield 34, 3) := by decide +kernel
theorem d_T_hold_52 : decode c_T_hold 52 = .ok (.iload_n 1, 1) := by decide +kernel
theorem d_T_hold_53 : decode c_T_hold 53 = .ok (.iaload, 1) := by decide +kernel
theorem d_T_hold_54 : decode c_T_hold 54 = .ok (.invokevirtual 111, 3) := by decide +kernel
theorem d_T_hold_57 : decode c_T_hold 57 = .ok (.iconst 1, 1) := by decide +kernel
theorem d_T_hold_58 : decode c_T_hold 58 = .ok (.ireturn, 1) := by decide +kernel
theorem d_T_revoke_0 : decode c_T_revoke 0 = .ok (.aload_n 0, 1) := by decide +kernel
theorem d_T_revoke_1 : decode c_T_revoke 1 = .ok (.iconst 0, 1) := by decide +kernel
theorem d_T_revoke_2 : decode c_T_revoke 2 = .ok (.putfield 89, 3) := by decide +kernel
theorem d_T_revoke_5 : decode c_T_revoke 5 = .ok (.aload_n 0, 1) := by decide +kernel
theorem d_T_revoke_6 : decode c_T_revoke 6 = .ok (.iload_n 1, 1) := by decide +kernel
theorem d_T_revoke_7 : decode c_T_revoke 7 = .ok (.invokevirtual 104, 3) := by decide +kernel
theorem d_T_revoke_10 : decode c_T_revoke 10 = .ok (.ifCond .eq 13, 3) := by decide +kernel
theorem d_T_revoke_13 : decode c_T_revoke 13 = .ok (.aload_n 0, 1) := by decide +kernel
theorem d_T_revoke_14 : decode c_T_revoke 14 = .ok (.getfield 31, 3) := by decide +kernel
theorem d_T_revoke_17 : decode c_T_revoke 17 = .ok (.iload_n 1, 1) := by decide +kernel
theorem d_T_revoke_18 : decode c_T_revoke 18 = .ok (.iaload, 1) := by decide +kernel
theorem d_T_revoke_19 : decode c_T_revoke 19 = .ok (.iconst 4, 1) := by decide +kernel
theorem d_T_revoke_20 : decode c_T_revoke 20 = .ok (.if_icmp .ne 5, 3) := by decide +kernel
theorem d_T_revoke_23 : decode c_T_revoke 23 = .ok (.iconst 0, 1) := by decide +kernel
theorem d_T_revoke_24 : decode c_T_revoke 24 = .ok (.ireturn, 1) := by decide +kernel
theorem d_T_revoke_25 : decode c_T_revoke 25 = .ok (.aload_n 0, 1) := by decide +kernel
theorem d_T_revoke_26 : decode c_T_revoke 26 = .ok (.getfield 31, 3) := by decide +kernel
theorem d_T_revoke_29 : decode c_T_revoke 29 = .ok (.iload_n 1, 1) := by decide +kernel
theorem d_T_revoke_30 : decode c_T_revoke 30 = .ok (.iconst 4, 1) := by decide +kernel
theorem d_T_revoke_31 : decode c_T_revoke 31 = .ok (.iastore, 1) := by decide +kernel
theorem d_T_revoke_32 : decode c_T_revoke 32 = .ok (.aload_n 0, 1) := by decide +kernel
theorem d_T_revoke_33 : decode c_T_revoke 33 = .ok (.getfield 37, 3) := by decide +kernel
theorem d_T_revoke_36 : decode c_T_revoke 36 = .ok (.iload_n 1, 1) := by decide +kernel
theorem d_T_revoke_37 : decode c_T_revoke 37 = .ok (.iconst 0, 1) := by decide +kernel
theorem d_T_revoke_38 : decode c_T_revoke 38 = .ok (.iastore, 1) := by decide +kernel
theorem d_T_revoke_39 : decode c_T_revoke 39 = .ok (.iconst 1, 1) := by decide +kernel
theorem d_T_revoke_40 : decode c_T_revoke 40 = .ok (.ireturn, 1) := by decide +kernel
theorem d_T_pass_0 : decode c_T_pass 0 = .ok (.aload_n 0, 1) := by decide +kernel
theorem d_T_pass_1 : decode c_T_pass 1 = .ok (.getfield 31, 3) := by decide +kernel
theorem d_T_pass_4 : decode c_T_pass 4 = .ok (.iload_n 1, 1) := by decide +kernel
theorem d_T_pass_5 : decode c_T_pass 5 = .ok (.iaload, 1) := by decide +kernel
theorem d_T_pass_6 : decode c_T_pass 6 = .ok (.iconst 1, 1) := by decide +kernel
theorem d_T_pass_7 : decode c_T_pass 7 = .ok (.if_icmp .ne 32, 3) := by decide +kernel
theorem d_T_pass_10 : decode c_T_pass 10 = .ok (.aload_n 0, 1) := by decide +kernel
theorem d_T_pass_11 : decode c_T_pass 11 = .ok (.getfield 108, 3) := by decide +kernel
theorem d_T_pass_14 : decode c_T_pass 14 = .ok (.aload_n 0, 1) := by decide +kernel
theorem d_T_pass_15 : decode c_T_pass 15 = .ok (.getfield 40, 3) := by decide +kernel
theorem d_T_pass_18 : decode c_T_pass 18 = .ok (.iload_n 1, 1) := by decide +kernel
theorem d_T_pass_19 : decode c_T_pass 19 = .ok (.iaload, 1) := by decide +kernel
theorem d_T_pass_20 : decode c_T_pass 20 = .ok (.isub, 1) := by decide +kernel
theorem d_T_pass_21 : decode c_T_pass 21 = .ok (.aload_n 0, 1) := by decide +kernel
theorem d_T_pass_22 : decode c_T_pass 22 = .ok (.getfield 22, 3) := by decide +kernel
theorem d_T_pass_25 : decode c_T_pass 25 = .ok (.iconst 5, 1) := by decide +kernel
theorem d_T_pass_26 : decode c_T_pass 26 = .ok (.iload_n 1, 1) := by decide +kernel
theorem d_T_pass_27 : decode c_T_pass 27 = .ok (.imul, 1) := by decide +kernel
theorem d_T_pass_28 : decode c_T_pass 28 = .ok (.aload_n 0, 1) := by decide +kernel
theorem d_T_pass_29 : decode c_T_pass 29 = .ok (.getfield 34, 3) := by decide +kernel
theorem d_T_pass_32 : decode c_T_pass 32 = .ok (.iload_n 1, 1) := by decide +kernel
theorem d_T_pass_33 : decode c_T_pass 33 = .ok (.iaload, 1) := by decide +kernel
theorem d_T_pass_34 : decode c_T_pass 34 = .ok (.iadd, 1) := by decide +kernel
theorem d_T_pass_35 : decode c_T_pass 35 = .ok (.iaload, 1) := by decide +kernel
theorem d_T_pass_36 : decode c_T_pass 36 = .ok (.if_icmp .ge 4, 3) := by decide +kernel
theorem d_T_pass_39 : decode c_T_pass 39 = .ok (.return_, 1) := by decide +kernel
theorem d_T_pass_40 : decode c_T_pass 40 = .ok (.aload_n 0, 1) := by decide +kernel
theorem d_T_pass_41 : decode c_T_pass 41 = .ok (.getfield 43, 3) := by decide +kernel
theorem d_T_pass_44 : decode c_T_pass 44 = .ok (.iload_n 1, 1) := by decide +kernel
theorem d_T_pass_45 : decode c_T_pass 45 = .ok (.iaload, 1) := by decide +kernel
theorem d_T_pass_46 : decode c_T_pass 46 = .ok (.ifCond .ne 12, 3) := by decide +kernel
theorem d_T_pass_49 : decode c_T_pass 49 = .ok (.aload_n 0, 1) := by decide +kernel
theorem d_T_pass_50 : decode c_T_pass 50 = .ok (.iload_n 1, 1) := by decide +kernel
theorem d_T_pass_51 : decode c_T_pass 51 = .ok (.iconst 1, 1) := by decide +kernel
theorem d_T_pass_52 : decode c_T_pass 52 = .ok (.invokevirtual 115, 3) := by decide +kernel
theorem d_T_pass_55 : decode c_T_pass 55 = .ok (.goto 86, 3) := by decide +kernel
theorem d_T_pass_58 : decode c_T_pass 58 = .ok (.aload_n 0, 1) := by decide +kernel
theorem d_T_pass_59 : decode c_T_pass 59 = .ok (.getfield 46, 3) := by decide +kernel
theorem d_T_pass_62 : decode c_T_pass 62 = .ok (.iload_n 1, 1) := by decide +kernel
theorem d_T_pass_63 : decode c_T_pass 63 = .ok (.iaload, 1) := by decide +kernel
theorem d_T_pass_64 : decode c_T_pass 64 = .ok (.i2l, 1) := by decide +kernel
theorem d_T_pass_65 : decode c_T_pass 65 = .ok (.aload_n 0, 1) := by decide +kernel
theorem d_T_pass_66 : decode c_T_pass 66 = .ok (.getfield 28, 3) := by decide +kernel
theorem d_T_pass_69 : decode c_T_pass 69 = .ok (.iload_n 1, 1) := by decide +kernel
theorem d_T_pass_70 : decode c_T_pass 70 = .ok (.iaload, 1) := by decide +kernel
theorem d_T_pass_71 : decode c_T_pass 71 = .ok (.i2l, 1) := by decide +kernel
theorem d_T_pass_72 : decode c_T_pass 72 = .ok (.lmul, 1) := by decide +kernel
theorem d_T_pass_73 : decode c_T_pass 73 = .ok (.aload_n 0, 1) := by decide +kernel
theorem d_T_pass_74 : decode c_T_pass 74 = .ok (.getfield 25, 3) := by decide +kernel
theorem d_T_pass_77 : decode c_T_pass 77 = .ok (.iload_n 1, 1) := by decide +kernel
theorem d_T_pass_78 : decode c_T_pass 78 = .ok (.iaload, 1) := by decide +kernel
theorem d_T_pass_79 : decode c_T_pass 79 = .ok (.i2l, 1) := by decide +kernel
theorem d_T_pass_80 : decode c_T_pass 80 = .ok (.aload_n 0, 1) := by decide +kernel
theorem d_T_pass_81 : decode c_T_pass 81 = .ok (.getfield 43, 3) := by decide +kernel
theorem d_T_pass_84 : decode c_T_pass 84 = .ok (.iload_n 1, 1) := by decide +kernel
theorem d_T_pass_85 : decode c_T_pass 85 = .ok (.iaload, 1) := by decide +kernel
theorem d_T_pass_86 : decode c_T_pass 86 = .ok (.i2l, 1) := by decide +kernel
theorem d_T_pass_87 : decode c_T_pass 87 = .ok (.lmul, 1) := by decide +kernel
theorem d_T_pass_88 : decode c_T_pass 88 = .ok (.lcmp, 1) := by decide +kernel
theorem d_T_pass_89 : decode c_T_pass 89 = .ok (.ifCond .le 12, 3) := by decide +kernel
theorem d_T_pass_92 : decode c_T_pass 92 = .ok (.aload_n 0, 1) := by decide +kernel
theorem d_T_pass_93 : decode c_T_pass 93 = .ok (.iload_n 1, 1) := by decide +kernel
theorem d_T_pass_94 : decode c_T_pass 94 = .ok (.iconst 2, 1) := by decide +kernel
theorem d_T_pass_95 : decode c_T_pass 95 = .ok (.invokevirtual 115, 3) := by decide +kernel
theorem d_T_pass_98 : decode c_T_pass 98 = .ok (.goto 43, 3) := by decide +kernel
theorem d_T_pass_101 : decode c_T_pass 101 = .ok (.aload_n 0, 1) := by decide +kernel
theorem d_T_pass_102 : decode c_T_pass 102 = .ok (.getfield 34, 3) := by decide +kernel
theorem d_T_pass_105 : decode c_T_pass 105 = .ok (.iload_n 1, 1) := by decide +kernel
theorem d_T_pass_106 : decode c_T_pass 106 = .ok (.iaload, 1) := by decide +kernel
theorem d_T_pass_107 : decode c_T_pass 107 = .ok (.iconst 1, 1) := by decide +kernel
theorem d_T_pass_108 : decode c_T_pass 108 = .ok (.iadd, 1) := by decide +kernel
theorem d_T_pass_109 : decode c_T_pass 109 = .ok (.aload_n 0, 1) := by decide +kernel
theorem d_T_pass_110 : decode c_T_pass 110 = .ok (.getfield 16, 3) := by decide +kernel
theorem d_T_pass_113 : decode c_T_pass 113 = .ok (.iload_n 1, 1) := by decide +kernel
theorem d_T_pass_114 : decode c_T_pass 114 = .ok (.iaload, 1) := by decide +kernel
theorem d_T_pass_115 : decode c_T_pass 115 = .ok (.if_icmp .ge 19, 3) := by decide +kernel
theorem d_T_pass_118 : decode c_T_pass 118 = .ok (.aload_n 0, 1) := by decide +kernel
theorem d_T_pass_119 : decode c_T_pass 119 = .ok (.iload_n 1, 1) := by decide +kernel
theorem d_T_pass_120 : decode c_T_pass 120 = .ok (.aload_n 0, 1) := by decide +kernel
theorem d_T_pass_121 : decode c_T_pass 121 = .ok (.getfield 34, 3) := by decide +kernel
theorem d_T_pass_124 : decode c_T_pass 124 = .ok (.iload_n 1, 1) := by decide +kernel
theorem d_T_pass_125 : decode c_T_pass 125 = .ok (.iaload, 1) := by decide +kernel
theorem d_T_pass_126 : decode c_T_pass 126 = .ok (.iconst 1, 1) := by decide +kernel
theorem d_T_pass_127 : decode c_T_pass 127 = .ok (.iadd, 1) := by decide +kernel
theorem d_T_pass_128 : decode c_T_pass 128 = .ok (.invokevirtual 111, 3) := by decide +kernel
theorem d_T_pass_131 : decode c_T_pass 131 = .ok (.goto 10, 3) := by decide +kernel
theorem d_T_pass_134 : decode c_T_pass 134 = .ok (.aload_n 0, 1) := by decide +kernel
theorem d_T_pass_135 : decode c_T_pass 135 = .ok (.getfield 31, 3) := by decide +kernel
theorem d_T_pass_138 : decode c_T_pass 138 = .ok (.iload_n 1, 1) := by decide +kernel
theorem d_T_pass_139 : decode c_T_pass 139 = .ok (.iconst 3, 1) := by decide +kernel
theorem d_T_pass_140 : decode c_T_pass 140 = .ok (.iastore, 1) := by decide +kernel
theorem d_T_pass_141 : decode c_T_pass 141 = .ok (.return_, 1) := by decide +kernel
theorem d_T_tick_0 : decode c_T_tick 0 = .ok (.aload_n 0, 1) := by decide +kernel
theorem d_T_tick_1 : decode c_T_tick 1 = .ok (.iconst 0, 1) := by decide +kernel
theorem d_T_tick_2 : decode c_T_tick 2 = .ok (.putfield 89, 3) := by decide +kernel
theorem d_T_tick_5 : decode c_T_tick 5 = .ok (.iload_n 1, 1) := by decide +kernel
theorem d_T_tick_6 : decode c_T_tick 6 = .ok (.iconst 0, 1) := by decide +kernel
theorem d_T_tick_7 : decode c_T_tick 7 = .ok (.sipush 2000, 3) := by decide +kernel
theorem d_T_tick_10 : decode c_T_tick 10 = .ok (.invokestatic 99, 3) := by decide +kernel
theorem d_T_tick_13 : decode c_T_tick 13 = .ok (.ifCond .ne 5, 3) := by decide +kernel
theorem d_T_tick_16 : decode c_T_tick 16 = .ok (.iconst (-1), 1) := by decide +kernel
theorem d_T_tick_17 : decode c_T_tick 17 = .ok (.ireturn, 1) := by decide +kernel
