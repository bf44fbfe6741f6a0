theorem d_D_put_19 : decode c_D_put 19 = .ok (.iconst 0, 1) := by decide +kernel
theorem d_D_put_20 : decode c_D_put 20 = .ok (.ireturn, 1) := by decide +kernel
theorem d_D_put_21 : decode c_D_put 21 = .ok (.aload_n 0, 1) := by decide +kernel
theorem d_D_put_22 : decode c_D_put 22 = .ok (.getfield 9, 3) := by decide +kernel
theorem d_D_put_25 : decode c_D_put 25 = .ok (.iload 4, 2) := by decide +kernel
theorem d_D_put_27 : decode c_D_put 27 = .ok (.iload_n 1, 1) := by decide +kernel
theorem d_D_put_28 : decode c_D_put 28 = .ok (.iastore, 1) := by decide +kernel
theorem d_D_put_29 : decode c_D_put 29 = .ok (.aload_n 0, 1) := by decide +kernel
theorem d_D_put_30 : decode c_D_put 30 = .ok (.getfield 15, 3) := by decide +kernel
theorem d_D_put_33 : decode c_D_put 33 = .ok (.iload 4, 2) := by decide +kernel
theorem d_D_put_35 : decode c_D_put 35 = .ok (.iload_n 2, 1) := by decide +kernel
theorem d_D_put_36 : decode c_D_put 36 = .ok (.iastore, 1) := by decide +kernel
theorem d_D_put_37 : decode c_D_put 37 = .ok (.aload_n 0, 1) := by decide +kernel
theorem d_D_put_38 : decode c_D_put 38 = .ok (.getfield 18, 3) := by decide +kernel
theorem d_D_put_41 : decode c_D_put 41 = .ok (.iload 4, 2) := by decide +kernel
theorem d_D_put_43 : decode c_D_put 43 = .ok (.iload_n 3, 1) := by decide +kernel
theorem d_D_put_44 : decode c_D_put 44 = .ok (.iastore, 1) := by decide +kernel
theorem d_D_put_45 : decode c_D_put 45 = .ok (.aload_n 0, 1) := by decide +kernel
theorem d_D_put_46 : decode c_D_put 46 = .ok (.aload_n 0, 1) := by decide +kernel
theorem d_D_put_47 : decode c_D_put 47 = .ok (.getfield 35, 3) := by decide +kernel
theorem d_D_put_50 : decode c_D_put 50 = .ok (.iload 4, 2) := by decide +kernel
theorem d_D_put_52 : decode c_D_put 52 = .ok (.iconst 1, 1) := by decide +kernel
theorem d_D_put_53 : decode c_D_put 53 = .ok (.iadd, 1) := by decide +kernel
theorem d_D_put_54 : decode c_D_put 54 = .ok (.invokestatic 39, 3) := by decide +kernel
theorem d_D_put_57 : decode c_D_put 57 = .ok (.putfield 35, 3) := by decide +kernel
theorem d_D_put_60 : decode c_D_put 60 = .ok (.iconst 1, 1) := by decide +kernel
theorem d_D_put_61 : decode c_D_put 61 = .ok (.ireturn, 1) := by decide +kernel
theorem d_D_placeOf_0 : decode c_D_placeOf 0 = .ok (.iconst 0, 1) := by decide +kernel
theorem d_D_placeOf_1 : decode c_D_placeOf 1 = .ok (.istore_n 3, 1) := by decide +kernel
theorem d_D_placeOf_2 : decode c_D_placeOf 2 = .ok (.iload_n 3, 1) := by decide +kernel
theorem d_D_placeOf_3 : decode c_D_placeOf 3 = .ok (.aload_n 0, 1) := by decide +kernel
theorem d_D_placeOf_4 : decode c_D_placeOf 4 = .ok (.getfield 35, 3) := by decide +kernel
theorem d_D_placeOf_7 : decode c_D_placeOf 7 = .ok (.if_icmp .ge 31, 3) := by decide +kernel
theorem d_D_placeOf_10 : decode c_D_placeOf 10 = .ok (.aload_n 0, 1) := by decide +kernel
theorem d_D_placeOf_11 : decode c_D_placeOf 11 = .ok (.getfield 9, 3) := by decide +kernel
theorem d_D_placeOf_14 : decode c_D_placeOf 14 = .ok (.iload_n 3, 1) := by decide +kernel
theorem d_D_placeOf_15 : decode c_D_placeOf 15 = .ok (.iaload, 1) := by decide +kernel
theorem d_D_placeOf_16 : decode c_D_placeOf 16 = .ok (.iload_n 1, 1) := by decide +kernel
theorem d_D_placeOf_17 : decode c_D_placeOf 17 = .ok (.if_icmp .ne 15, 3) := by decide +kernel
theorem d_D_placeOf_20 : decode c_D_placeOf 20 = .ok (.aload_n 0, 1) := by decide +kernel
theorem d_D_placeOf_21 : decode c_D_placeOf 21 = .ok (.getfield 15, 3) := by decide +kernel
theorem d_D_placeOf_24 : decode c_D_placeOf 24 = .ok (.iload_n 3, 1) := by decide +kernel
theorem d_D_placeOf_25 : decode c_D_placeOf 25 = .ok (.iaload, 1) := by decide +kernel
theorem d_D_placeOf_26 : decode c_D_placeOf 26 = .ok (.iload_n 2, 1) := by decide +kernel
theorem d_D_placeOf_27 : decode c_D_placeOf 27 = .ok (.if_icmp .ne 5, 3) := by decide +kernel
theorem d_D_placeOf_30 : decode c_D_placeOf 30 = .ok (.iload_n 3, 1) := by decide +kernel
theorem d_D_placeOf_31 : decode c_D_placeOf 31 = .ok (.ireturn, 1) := by decide +kernel
theorem d_D_placeOf_32 : decode c_D_placeOf 32 = .ok (.iinc 3 1, 3) := by decide +kernel
theorem d_D_placeOf_35 : decode c_D_placeOf 35 = .ok (.goto (-33), 3) := by decide +kernel
theorem d_D_placeOf_38 : decode c_D_placeOf 38 = .ok (.aload_n 0, 1) := by decide +kernel
theorem d_D_placeOf_39 : decode c_D_placeOf 39 = .ok (.getfield 35, 3) := by decide +kernel
theorem d_D_placeOf_42 : decode c_D_placeOf 42 = .ok (.ireturn, 1) := by decide +kernel
theorem d_D_setWay_0 : decode c_D_setWay 0 = .ok (.aload_n 0, 1) := by decide +kernel
theorem d_D_setWay_1 : decode c_D_setWay 1 = .ok (.iload_n 1, 1) := by decide +kernel
theorem d_D_setWay_2 : decode c_D_setWay 2 = .ok (.putfield 44, 3) := by decide +kernel
theorem d_D_setWay_5 : decode c_D_setWay 5 = .ok (.aload_n 0, 1) := by decide +kernel
theorem d_D_setWay_6 : decode c_D_setWay 6 = .ok (.iload_n 2, 1) := by decide +kernel
theorem d_D_setWay_7 : decode c_D_setWay 7 = .ok (.putfield 47, 3) := by decide +kernel
theorem d_D_setWay_10 : decode c_D_setWay 10 = .ok (.return_, 1) := by decide +kernel
theorem d_D_searchCheaper_0 : decode c_D_searchCheaper 0 = .ok (.aload_n 0, 1) := by decide +kernel
theorem d_D_searchCheaper_1 : decode c_D_searchCheaper 1 = .ok (.getfield 21, 3) := by decide +kernel
theorem d_D_searchCheaper_4 : decode c_D_searchCheaper 4 = .ok (.ldc 50, 2) := by decide +kernel
theorem d_D_searchCheaper_6 : decode c_D_searchCheaper 6 = .ok (.invokestatic 51, 3) := by decide +kernel
theorem d_D_searchCheaper_9 : decode c_D_searchCheaper 9 = .ok (.aload_n 0, 1) := by decide +kernel
theorem d_D_searchCheaper_10 : decode c_D_searchCheaper 10 = .ok (.getfield 21, 3) := by decide +kernel
theorem d_D_searchCheaper_13 : decode c_D_searchCheaper 13 = .ok (.iload_n 1, 1) := by decide +kernel
theorem d_D_searchCheaper_14 : decode c_D_searchCheaper 14 = .ok (.iconst 0, 1) := by decide +kernel
theorem d_D_searchCheaper_15 : decode c_D_searchCheaper 15 = .ok (.invokestatic 57, 3) := by decide +kernel
theorem d_D_searchCheaper_18 : decode c_D_searchCheaper 18 = .ok (.iconst 1, 1) := by decide +kernel
theorem d_D_searchCheaper_19 : decode c_D_searchCheaper 19 = .ok (.istore 4, 2) := by decide +kernel
theorem d_D_searchCheaper_21 : decode c_D_searchCheaper 21 = .ok (.iload 4, 2) := by decide +kernel
theorem d_D_searchCheaper_23 : decode c_D_searchCheaper 23 = .ok (.iconst 4, 1) := by decide +kernel
theorem d_D_searchCheaper_24 : decode c_D_searchCheaper 24 = .ok (.if_icmp .gt 60, 3) := by decide +kernel
theorem d_D_searchCheaper_27 : decode c_D_searchCheaper 27 = .ok (.aload_n 0, 1) := by decide +kernel
theorem d_D_searchCheaper_28 : decode c_D_searchCheaper 28 = .ok (.invokevirtual 61, 3) := by decide +kernel
theorem d_D_searchCheaper_31 : decode c_D_searchCheaper 31 = .ok (.aload_n 0, 1) := by decide +kernel
theorem d_D_searchCheaper_32 : decode c_D_searchCheaper 32 = .ok (.getfield 24, 3) := by decide +kernel
theorem d_D_searchCheaper_35 : decode c_D_searchCheaper 35 = .ok (.iload_n 2, 1) := by decide +kernel
theorem d_D_searchCheaper_36 : decode c_D_searchCheaper 36 = .ok (.invokestatic 64, 3) := by decide +kernel
theorem d_D_searchCheaper_39 : decode c_D_searchCheaper 39 = .ok (.istore 5, 2) := by decide +kernel
theorem d_D_searchCheaper_41 : decode c_D_searchCheaper 41 = .ok (.iload 5, 2) := by decide +kernel
theorem d_D_searchCheaper_43 : decode c_D_searchCheaper 43 = .ok (.aload_n 0, 1) := by decide +kernel
theorem d_D_searchCheaper_44 : decode c_D_searchCheaper 44 = .ok (.getfield 44, 3) := by decide +kernel
theorem d_D_searchCheaper_47 : decode c_D_searchCheaper 47 = .ok (.if_icmp .ge 11, 3) := by decide +kernel
theorem d_D_searchCheaper_50 : decode c_D_searchCheaper 50 = .ok (.aload_n 0, 1) := by decide +kernel
theorem d_D_searchCheaper_51 : decode c_D_searchCheaper 51 = .ok (.iload 5, 2) := by decide +kernel
theorem d_D_searchCheaper_53 : decode c_D_searchCheaper 53 = .ok (.iload 4, 2) := by decide +kernel
theorem d_D_searchCheaper_55 : decode c_D_searchCheaper 55 = .ok (.invokevirtual 68, 3) := by decide +kernel
theorem d_D_searchCheaper_58 : decode c_D_searchCheaper 58 = .ok (.aload_n 0, 1) := by decide +kernel
theorem d_D_searchCheaper_59 : decode c_D_searchCheaper 59 = .ok (.getfield 24, 3) := by decide +kernel
theorem d_D_searchCheaper_62 : decode c_D_searchCheaper 62 = .ok (.iconst 0, 1) := by decide +kernel
theorem d_D_searchCheaper_63 : decode c_D_searchCheaper 63 = .ok (.aload_n 0, 1) := by decide +kernel
theorem d_D_searchCheaper_64 : decode c_D_searchCheaper 64 = .ok (.getfield 21, 3) := by decide +kernel
theorem d_D_searchCheaper_67 : decode c_D_searchCheaper 67 = .ok (.iconst 0, 1) := by decide +kernel
theorem d_D_searchCheaper_68 : decode c_D_searchCheaper 68 = .ok (.bipush 16, 2) := by decide +kernel
theorem d_D_searchCheaper_70 : decode c_D_searchCheaper 70 = .ok (.invokestatic 72, 3) := by decide +kernel
theorem d_D_searchCheaper_73 : decode c_D_searchCheaper 73 = .ok (.aload_n 0, 1) := by decide +kernel
theorem d_D_searchCheaper_74 : decode c_D_searchCheaper 74 = .ok (.aload_n 3, 1) := by decide +kernel
theorem d_D_searchCheaper_75 : decode c_D_searchCheaper 75 = .ok (.invokevirtual 78, 3) := by decide +kernel
theorem d_D_searchCheaper_78 : decode c_D_searchCheaper 78 = .ok (.iinc 4 1, 3) := by decide +kernel
theorem d_D_searchCheaper_81 : decode c_D_searchCheaper 81 = .ok (.goto (-60), 3) := by decide +kernel
theorem d_D_searchCheaper_84 : decode c_D_searchCheaper 84 = .ok (.return_, 1) := by decide +kernel
theorem d_D_takeOneMore_0 : decode c_D_takeOneMore 0 = .ok (.aload_n 0, 1) := by decide +kernel
theorem d_D_takeOneMore_1 : decode c_D_takeOneMore 1 = .ok (.getfield 24, 3) := by decide +kernel
theorem d_D_takeOneMore_4 : decode c_D_takeOneMore 4 = .ok (.ldc 50, 2) := by decide +kernel
theorem d_D_takeOneMore_6 : decode c_D_takeOneMore 6 = .ok (.invokestatic 51, 3) := by decide +kernel
theorem d_D_takeOneMore_9 : decode c_D_takeOneMore 9 = .ok (.iconst 0, 1) := by decide +kernel
theorem d_D_takeOneMore_10 : decode c_D_takeOneMore 10 = .ok (.istore_n 1, 1) := by decide +kernel
theorem d_D_takeOneMore_11 : decode c_D_takeOneMore 11 = .ok (.iload_n 1, 1) := by decide +kernel
theorem d_D_takeOneMore_12 : decode c_D_takeOneMore 12 = .ok (.aload_n 0, 1) := by decide +kernel
theorem d_D_takeOneMore_13 : decode c_D_takeOneMore 13 = .ok (.getfield 35, 3) := by decide +kernel
theorem d_D_takeOneMore_16 : decode c_D_takeOneMore 16 = .ok (.if_icmp .ge 50, 3) := by decide +kernel
theorem d_D_takeOneMore_19 : decode c_D_takeOneMore 19 = .ok (.aload_n 0, 1) := by decide +kernel
theorem d_D_takeOneMore_20 : decode c_D_takeOneMore 20 = .ok (.getfield 21, 3) := by decide +kernel
theorem d_D_takeOneMore_23 : decode c_D_takeOneMore 23 = .ok (.aload_n 0, 1) := by decide +kernel
theorem d_D_takeOneMore_24 : decode c_D_takeOneMore 24 = .ok (.getfield 9, 3) := by decide +kernel
theorem d_D_takeOneMore_27 : decode c_D_takeOneMore 27 = .ok (.iload_n 1, 1) := by decide +kernel
theorem d_D_takeOneMore_28 : decode c_D_takeOneMore 28 = .ok (.iaload, 1) := by decide +kernel
theorem d_D_takeOneMore_29 : decode c_D_takeOneMore 29 = .ok (.invokestatic 64, 3) := by decide +kernel
theorem d_D_takeOneMore_32 : decode c_D_takeOneMore 32 = .ok (.istore_n 2, 1) := by decide +kernel
theorem d_D_takeOneMore_33 : decode c_D_takeOneMore 33 = .ok (.iload_n 2, 1) := by decide +kernel
theorem d_D_takeOneMore_34 : decode c_D_takeOneMore 34 = .ok (.ldc 50, 2) := by decide +kernel
theorem d_D_takeOneMore_36 : decode c_D_takeOneMore 36 = .ok (.if_icmp .eq 24, 3) := by decide +kernel
theorem d_D_takeOneMore_39 : decode c_D_takeOneMore 39 = .ok (.aload_n 0, 1) := by decide +kernel
theorem d_D_takeOneMore_40 : decode c_D_takeOneMore 40 = .ok (.getfield 24, 3) := by decide +kernel
theorem d_D_takeOneMore_43 : decode c_D_takeOneMore 43 = .ok (.aload_n 0, 1) := by decide +kernel
theorem d_D_takeOneMore_44 : decode c_D_takeOneMore 44 = .ok (.getfield 15, 3) := by decide +kernel
theorem d_D_takeOneMore_47 : decode c_D_takeOneMore 47 = .ok (.iload_n 1, 1) := by decide +kernel
theorem d_D_takeOneMore_48 : decode c_D_takeOneMore 48 = .ok (.iaload, 1) := by decide +kernel
theorem d_D_takeOneMore_49 : decode c_D_takeOneMore 49 = .ok (.iload_n 2, 1) := by decide +kernel
theorem d_D_takeOneMore_50 : decode c_D_takeOneMore 50 = .ok (.aload_n 0, 1) := by decide +kernel
theorem d_D_takeOneMore_51 : decode c_D_takeOneMore 51 = .ok (.getfield 18, 3) := by decide +kernel
theorem d_D_takeOneMore_54 : decode c_D_takeOneMore 54 = .ok (.iload_n 1, 1) := by decide +kernel
theorem d_D_takeOneMore_55 : decode c_D_takeOneMore 55 = .ok (.iaload, 1) := by decide +kernel
theorem d_D_takeOneMore_56 : decode c_D_takeOneMore 56 = .ok (.iadd, 1) := by decide +kernel
theorem d_D_takeOneMore_57 : decode c_D_takeOneMore 57 = .ok (.invokestatic 57, 3) := by decide +kernel
theorem d_D_takeOneMore_60 : decode c_D_takeOneMore 60 = .ok (.iinc 1 1, 3) := by decide +kernel
theorem d_D_takeOneMore_63 : decode c_D_takeOneMore 63 = .ok (.goto (-52), 3) := by decide +kernel
theorem d_D_takeOneMore_66 : decode c_D_takeOneMore 66 = .ok (.return_, 1) := by decide +kernel
theorem d_D_dropRevoked_0 : decode c_D_dropRevoked 0 = .ok (.iconst 0, 1) := by decide +kernel
theorem d_D_dropRevoked_1 : decode c_D_dropRevoked 1 = .ok (.istore_n 2, 1) := by decide +kernel
theorem d_D_dropRevoked_2 : decode c_D_dropRevoked 2 = .ok (.iload_n 2, 1) := by decide +kernel
theorem d_D_dropRevoked_3 : decode c_D_dropRevoked 3 = .ok (.aload_n 1, 1) := by decide +kernel
theorem d_D_dropRevoked_4 : decode c_D_dropRevoked 4 = .ok (.arraylength, 1) := by decide +kernel
theorem d_D_dropRevoked_5 : decode c_D_dropRevoked 5 = .ok (.if_icmp .ge 39, 3) := by decide +kernel
theorem d_D_dropRevoked_8 : decode c_D_dropRevoked 8 = .ok (.iload_n 2, 1) := by decide +kernel
theorem d_D_dropRevoked_9 : decode c_D_dropRevoked 9 = .ok (.bipush 16, 2) := by decide +kernel
theorem d_D_dropRevoked_11 : decode c_D_dropRevoked 11 = .ok (.if_icmp .ge 33, 3) := by decide +kernel
theorem d_D_dropRevoked_14 : decode c_D_dropRevoked 14 = .ok (.aload_n 1, 1) := by decide +kernel
theorem d_D_dropRevoked_15 : decode c_D_dropRevoked 15 = .ok (.iload_n 2, 1) := by decide +kernel
theorem d_D_dropRevoked_16 : decode c_D_dropRevoked 16 = .ok (.aaload, 1) := by decide +kernel
theorem d_D_dropRevoked_17 : decode c_D_dropRevoked 17 = .ok (.astore_n 3, 1) := by decide +kernel
theorem d_D_dropRevoked_18 : decode c_D_dropRevoked 18 = .ok (.aload_n 3, 1) := by decide +kernel
theorem d_D_dropRevoked_19 : decode c_D_dropRevoked 19 = .ok (.ifnull 19, 3) := by decide +kernel
theorem d_D_dropRevoked_22 : decode c_D_dropRevoked 22 = .ok (.aload_n 3, 1) := by decide +kernel
theorem d_D_dropRevoked_23 : decode c_D_dropRevoked 23 = .ok (.getfield 82, 3) := by decide +kernel
theorem d_D_dropRevoked_26 : decode c_D_dropRevoked 26 = .ok (.iconst 4, 1) := by decide +kernel
theorem d_D_dropRevoked_27 : decode c_D_dropRevoked 27 = .ok (.if_icmp .ne 11, 3) := by decide +kernel
theorem d_D_dropRevoked_30 : decode c_D_dropRevoked 30 = .ok (.aload_n 0, 1) := by decide +kernel
theorem d_D_dropRevoked_31 : decode c_D_dropRevoked 31 = .ok (.getfield 21, 3) := by decide +kernel
theorem d_D_dropRevoked_34 : decode c_D_dropRevoked 34 = .ok (.iload_n 2, 1) := by decide +kernel
theorem d_D_dropRevoked_35 : decode c_D_dropRevoked 35 = .ok (.ldc 50, 2) := by decide +kernel
theorem d_D_dropRevoked_37 : decode c_D_dropRevoked 37 = .ok (.iastore, 1) := by decide +kernel
theorem d_D_dropRevoked_38 : decode c_D_dropRevoked 38 = .ok (.iinc 2 1, 3) := by decide +kernel
theorem d_D_dropRevoked_41 : decode c_D_dropRevoked 41 = .ok (.goto (-39), 3) := by decide +kernel
theorem d_D_dropRevoked_44 : decode c_D_dropRevoked 44 = .ok (.return_, 1) := by decide +kernel
theorem d_D_sizeAt_0 : decode c_D_sizeAt 0 = .ok (.iload_n 1, 1) := by decide +kernel
theorem d_D_sizeAt_1 : decode c_D_sizeAt 1 = .ok (.iconst 0, 1) := by decide +kernel
theorem d_D_sizeAt_2 : decode c_D_sizeAt 2 = .ok (.aload_n 0, 1) := by decide +kernel
theorem d_D_sizeAt_3 : decode c_D_sizeAt 3 = .ok (.arraylength, 1) := by decide +kernel
theorem d_D_sizeAt_4 : decode c_D_sizeAt 4 = .ok (.iconst 1, 1) := by decide +kernel
theorem d_D_sizeAt_5 : decode c_D_sizeAt 5 = .ok (.isub, 1) := by decide +kernel
theorem d_D_sizeAt_6 : decode c_D_sizeAt 6 = .ok (.invokestatic 31, 3) := by decide +kernel
theorem d_D_sizeAt_9 : decode c_D_sizeAt 9 = .ok (.ifCond .eq 9, 3) := by decide +kernel
theorem d_D_sizeAt_12 : decode c_D_sizeAt 12 = .ok (.aload_n 0, 1) := by decide +kernel
theorem d_D_sizeAt_13 : decode c_D_sizeAt 13 = .ok (.iload_n 1, 1) := by decide +kernel
theorem d_D_sizeAt_14 : decode c_D_sizeAt 14 = .ok (.iaload, 1) := by decide +kernel
theorem d_D_sizeAt_15 : decode c_D_sizeAt 15 = .ok (.goto 5, 3) := by decide +kernel
theorem d_D_sizeAt_18 : decode c_D_sizeAt 18 = .ok (.ldc 50, 2) := by decide +kernel
theorem d_D_sizeAt_20 : decode c_D_sizeAt 20 = .ok (.ireturn, 1) := by decide +kernel
theorem d_D_lower_0 : decode c_D_lower 0 = .ok (.iload_n 1, 1) := by decide +kernel
theorem d_D_lower_1 : decode c_D_lower 1 = .ok (.iconst 0, 1) := by decide +kernel
theorem d_D_lower_2 : decode c_D_lower 2 = .ok (.aload_n 0, 1) := by decide +kernel
theorem d_D_lower_3 : decode c_D_lower 3 = .ok (.arraylength, 1) := by decide +kernel
theorem d_D_lower_4 : decode c_D_lower 4 = .ok (.iconst 1, 1) := by decide +kernel
theorem d_D_lower_5 : decode c_D_lower 5 = .ok (.isub, 1) := by decide +kernel
theorem d_D_lower_6 : decode c_D_lower 6 = .ok (.invokestatic 31, 3) := by decide +kernel
theorem d_D_lower_9 : decode c_D_lower 9 = .ok (.ifCond .eq 14, 3) := by decide +kernel
theorem d_D_lower_12 : decode c_D_lower 12 = .ok (.iload_n 2, 1) := by decide +kernel
theorem d_D_lower_13 : decode c_D_lower 13 = .ok (.aload_n 0, 1) := by decide +kernel
theorem d_D_lower_14 : decode c_D_lower 14 = .ok (.iload_n 1, 1) := by decide +kernel
theorem d_D_lower_15 : decode c_D_lower 15 = .ok (.iaload, 1) := by decide +kernel
theorem d_D_lower_16 : decode c_D_lower 16 = .ok (.if_icmp .ge 7, 3) := by decide +kernel
theorem d_D_lower_19 : decode c_D_lower 19 = .ok (.aload_n 0, 1) := by decide +kernel
theorem d_D_lower_20 : decode c_D_lower 20 = .ok (.iload_n 1, 1) := by decide +kernel
theorem d_D_lower_21 : decode c_D_lower 21 = .ok (.iload_n 2, 1) := by decide +kernel
theorem d_D_lower_22 : decode c_D_lower 22 = .ok (.iastore, 1) := by decide +kernel
theorem d_D_lower_23 : decode c_D_lower 23 = .ok (.return_, 1) := by decide +kernel
theorem d_M_init_0 : decode c_M_init 0 = .ok (.aload_n 0, 1) := by decide +kernel
theorem d_M_init_1 : decode c_M_init 1 = .ok (.invokespecial 3, 3) := by decide +kernel
theorem d_M_init_4 : decode c_M_init 4 = .ok (.aload_n 0, 1) := by decide +kernel
theorem d_M_init_5 : decode c_M_init 5 = .ok (.iconst (-1), 1) := by decide +kernel
theorem d_M_init_6 : decode c_M_init 6 = .ok (.putfield 9, 3) := by decide +kernel
theorem d_M_init_9 : decode c_M_init 9 = .ok (.aload_n 0, 1) := by decide +kernel
theorem d_M_init_10 : decode c_M_init 10 = .ok (.iconst (-1), 1) := by decide +kernel
theorem d_M_init_11 : decode c_M_init 11 = .ok (.putfield 15, 3) := by decide +kernel
theorem d_M_init_14 : decode c_M_init 14 = .ok (.aload_n 0, 1) := by decide +kernel
theorem d_M_init_15 : decode c_M_init 15 = .ok (.iload_n 1, 1) := by decide +kernel
theorem d_M_init_16 : decode c_M_init 16 = .ok (.putfield 18, 3) := by decide +kernel
theorem d_M_init_19 : decode c_M_init 19 = .ok (.aload_n 0, 1) := by decide +kernel
theorem d_M_init_20 : decode c_M_init 20 = .ok (.iload_n 2, 1) := by decide +kernel
theorem d_M_init_21 : decode c_M_init 21 = .ok (.putfield 21, 3) := by decide +kernel
theorem d_M_init_24 : decode c_M_init 24 = .ok (.aload_n 0, 1) := by decide +kernel
theorem d_M_init_25 : decode c_M_init 25 = .ok (.iload_n 3, 1) := by decide +kernel
theorem d_M_init_26 : decode c_M_init 26 = .ok (.putfield 24, 3) := by decide +kernel
theorem d_M_init_29 : decode c_M_init 29 = .ok (.return_, 1) := by decide +kernel
theorem d_R_init_0 : decode c_R_init 0 = .ok (.aload_n 0, 1) := by decide +kernel
theorem d_R_init_1 : decode c_R_init 1 = .ok (.invokespecial 3, 3) := by decide +kernel
theorem d_R_init_4 : decode c_R_init 4 = .ok (.aload_n 0, 1) := by decide +kernel
theorem d_R_init_5 : decode c_R_init 5 = .ok (.iconst 5, 1) := by decide +kernel
theorem d_R_init_6 : decode c_R_init 6 = .ok (.newarray .int, 2) := by decide +kernel
theorem d_R_init_8 : decode c_R_init 8 = .ok (.putfield 9, 3) := by decide +kernel
theorem d_R_init_11 : decode c_R_init 11 = .ok (.aload_n 0, 1) := by decide +kernel
theorem d_R_init_12 : decode c_R_init 12 = .ok (.iconst 5, 1) := by decide +kernel
theorem d_R_init_13 : decode c_R_init 13 = .ok (.newarray .int, 2) := by decide +kernel
theorem d_R_init_15 : decode c_R_init 15 = .ok (.putfield 15, 3) := by decide +kernel
theorem d_R_init_18 : decode c_R_init 18 = .ok (.aload_n 0, 1) := by decide +kernel
theorem d_R_init_19 : decode c_R_init 19 = .ok (.iconst 1, 1) := by decide +kernel
theorem d_R_init_20 : decode c_R_init 20 = .ok (.putfield 18, 3) := by decide +kernel
theorem d_R_init_23 : decode c_R_init 23 = .ok (.aload_n 0, 1) := by decide +kernel
theorem d_R_init_24 : decode c_R_init 24 = .ok (.iconst 1, 1) := by decide +kernel
theorem d_R_init_25 : decode c_R_init 25 = .ok (.putfield 22, 3) := by decide +kernel
theorem d_R_init_28 : decode c_R_init 28 = .ok (.aload_n 0, 1) := by decide +kernel
theorem d_R_init_29 : decode c_R_init 29 = .ok (.iconst 0, 1) := by decide +kernel
theorem d_R_init_30 : decode c_R_init 30 = .ok (.putfield 25, 3) := by decide +kernel
theorem d_R_init_33 : decode c_R_init 33 = .ok (.aload_n 0, 1) := by decide +kernel
theorem d_R_init_34 : decode c_R_init 34 = .ok (.iconst 0, 1) := by decide +kernel
theorem d_R_init_35 : decode c_R_init 35 = .ok (.putfield 28, 3) := by decide +kernel
theorem d_R_init_38 : decode c_R_init 38 = .ok (.aload_n 0, 1) := by decide +kernel
theorem d_R_init_39 : decode c_R_init 39 = .ok (.iload_n 1, 1) := by decide +kernel
theorem d_R_init_40 : decode c_R_init 40 = .ok (.putfield 31, 3) := by decide +kernel
theorem d_R_init_43 : decode c_R_init 43 = .ok (.aload_n 0, 1) := by decide +kernel
theorem d_R_init_44 : decode c_R_init 44 = .ok (.iload_n 2, 1) := by decide +kernel
theorem d_R_init_45 : decode c_R_init 45 = .ok (.putfield 34, 3) := by decide +kernel
theorem d_R_init_48 : decode c_R_init 48 = .ok (.aload_n 0, 1) := by decide +kernel
theorem d_R_init_49 : decode c_R_init 49 = .ok (.iload_n 3, 1) := by decide +kernel
theorem d_R_init_50 : decode c_R_init 50 = .ok (.putfield 38, 3) := by decide +kernel
theorem d_R_init_53 : decode c_R_init 53 = .ok (.return_, 1) := by decide +kernel
theorem d_R_addStage_0 : decode c_R_addStage 0 = .ok (.aload_n 0, 1) := by decide +kernel
theorem d_R_addStage_1 : decode c_R_addStage 1 = .ok (.getfield 25, 3) := by decide +kernel
theorem d_R_addStage_4 : decode c_R_addStage 4 = .ok (.ifCond .ne 11, 3) := by decide +kernel
theorem d_R_addStage_7 : decode c_R_addStage 7 = .ok (.aload_n 0, 1) := by decide +kernel
theorem d_R_addStage_8 : decode c_R_addStage 8 = .ok (.getfield 41, 3) := by decide +kernel
theorem d_R_addStage_11 : decode c_R_addStage 11 = .ok (.iconst 5, 1) := by decide +kernel
theorem d_R_addStage_12 : decode c_R_addStage 12 = .ok (.if_icmp .lt 5, 3) := by decide +kernel
theorem d_R_addStage_15 : decode c_R_addStage 15 = .ok (.iconst 0, 1) := by decide +kernel
theorem d_R_addStage_16 : decode c_R_addStage 16 = .ok (.ireturn, 1) := by decide +kernel
theorem d_R_addStage_17 : decode c_R_addStage 17 = .ok (.aload_n 0, 1) := by decide +kernel
theorem d_R_addStage_18 : decode c_R_addStage 18 = .ok (.getfield 41, 3) := by decide +kernel
theorem d_R_addStage_21 : decode c_R_addStage 21 = .ok (.ifCond .ne 7, 3) := by decide +kernel
theorem d_R_addStage_24 : decode c_R_addStage 24 = .ok (.iconst 0, 1) := by decide +kernel
theorem d_R_addStage_25 : decode c_R_addStage 25 = .ok (.goto 14, 3) := by decide +kernel
theorem d_R_addStage_28 : decode c_R_addStage 28 = .ok (.aload_n 0, 1) := by decide +kernel
theorem d_R_addStage_29 : decode c_R_addStage 29 = .ok (.getfield 9, 3) := by decide +kernel
theorem d_R_addStage_32 : decode c_R_addStage 32 = .ok (.aload_n 0, 1) := by decide +kernel
theorem d_R_addStage_33 : decode c_R_addStage 33 = .ok (.getfield 41, 3) := by decide +kernel
theorem d_R_addStage_36 : decode c_R_addStage 36 = .ok (.iconst 1, 1) := by decide +kernel
theorem d_R_addStage_37 : decode c_R_addStage 37 = .ok (.isub, 1) := by decide +kernel
theorem d_R_addStage_38 : decode c_R_addStage 38 = .ok (.iaload, 1) := by decide +kernel
theorem d_R_addStage_39 : decode c_R_addStage 39 = .ok (.istore_n 3, 1) := by decide +kernel
theorem d_R_addStage_40 : decode c_R_addStage 40 = .ok (.iload_n 1, 1) := by decide +kernel
theorem d_R_addStage_41 : decode c_R_addStage 41 = .ok (.iload_n 3, 1) := by decide +kernel
theorem d_R_addStage_42 : decode c_R_addStage 42 = .ok (.sipush 1000, 3) := by decide +kernel
theorem d_R_addStage_45 : decode c_R_addStage 45 = .ok (.invokestatic 44, 3) := by decide +kernel
theorem d_R_addStage_48 : decode c_R_addStage 48 = .ok (.ifCond .eq 14, 3) := by decide +kernel
theorem d_R_addStage_51 : decode c_R_addStage 51 = .ok (.iload_n 2, 1) := by decide +kernel
theorem d_R_addStage_52 : decode c_R_addStage 52 = .ok (.iconst 0, 1) := by decide +kernel
theorem d_R_addStage_53 : decode c_R_addStage 53 = .ok (.sipush 1000, 3) := by decide +kernel
theorem d_R_addStage_56 : decode c_R_addStage 56 = .ok (.invokestatic 44, 3) := by decide +kernel
theorem d_R_addStage_59 : decode c_R_addStage 59 = .ok (.ifCond .ne 5, 3) := by decide +kernel
theorem d_R_addStage_62 : decode c_R_addStage 62 = .ok (.iconst 0, 1) := by decide +kernel
theorem d_R_addStage_63 : decode c_R_addStage 63 = .ok (.ireturn, 1) := by decide +kernel
theorem d_R_addStage_64 : decode c_R_addStage 64 = .ok (.aload_n 0, 1) := by decide +kernel
theorem d_R_addStage_65 : decode c_R_addStage 65 = .ok (.getfield 9, 3) := by decide +kernel
theorem d_R_addStage_68 : decode c_R_addStage 68 = .ok (.aload_n 0, 1) := by decide +kernel
theorem d_R_addStage_69 : decode c_R_addStage 69 = .ok (.getfield 41, 3) := by decide +kernel
theorem d_R_addStage_72 : decode c_R_addStage 72 = .ok (.iload_n 1, 1) := by decide +kernel
theorem d_R_addStage_73 : decode c_R_addStage 73 = .ok (.iastore, 1) := by decide +kernel
theorem d_R_addStage_74 : decode c_R_addStage 74 = .ok (.aload_n 0, 1) := by decide +kernel
theorem d_R_addStage_75 : decode c_R_addStage 75 = .ok (.getfield 15, 3) := by decide +kernel
theorem d_R_addStage_78 : decode c_R_addStage 78 = .ok (.aload_n 0, 1) := by decide +kernel
theorem d_R_addStage_79 : decode c_R_addStage 79 = .ok (.getfield 41, 3) := by decide +kernel
theorem d_R_addStage_82 : decode c_R_addStage 82 = .ok (.iload_n 2, 1) := by decide +kernel
theorem d_R_addStage_83 : decode c_R_addStage 83 = .ok (.iastore, 1) := by decide +kernel
theorem d_R_addStage_84 : decode c_R_addStage 84 = .ok (.aload_n 0, 1) := by decide +kernel
theorem d_R_addStage_85 : decode c_R_addStage 85 = .ok (.dup, 1) := by decide +kernel
theorem d_R_addStage_86 : decode c_R_addStage 86 = .ok (.getfield 41, 3) := by decide +kernel
theorem d_R_addStage_89 : decode c_R_addStage 89 = .ok (.iconst 1, 1) := by decide +kernel
theorem d_R_addStage_90 : decode c_R_addStage 90 = .ok (.iadd, 1) := by decide +kernel
theorem d_R_addStage_91 : decode c_R_addStage 91 = .ok (.putfield 41, 3) := by decide +kernel
theorem d_R_addStage_94 : decode c_R_addStage 94 = .ok (.iconst 1, 1) := by decide +kernel
theorem d_R_addStage_95 : decode c_R_addStage 95 = .ok (.ireturn, 1) := by decide +kernel
theorem d_R_setHealth_0 : decode c_R_setHealth 0 = .ok (.iload_n 2, 1) := by decide +kernel
theorem d_R_setHealth_1 : decode c_R_setHealth 1 = .ok (.iconst 1, 1) := by decide +kernel
theorem d_R_setHealth_2 : decode c_R_setHealth 2 = .ok (.sipush 1000, 3) := by decide +kernel
theorem d_R_setHealth_5 : decode c_R_setHealth 5 = .ok (.invokestatic 44, 3) := by decide +kernel
theorem d_R_setHealth_8 : decode c_R_setHealth 8 = .ok (.ifCond .eq 12, 3) := by decide +kernel
theorem d_R_setHealth_11 : decode c_R_setHealth 11 = .ok (.iload_n 1, 1) := by decide +kernel
theorem d_R_setHealth_12 : decode c_R_setHealth 12 = .ok (.iconst 0, 1) := by decide +kernel
theorem d_R_setHealth_13 : decode c_R_setHealth 13 = .ok (.iload_n 2, 1) := by decide +kernel
theorem d_R_setHealth_14 : decode c_R_setHealth 14 = .ok (.invokestatic 44, 3) := by decide +kernel
theorem d_R_setHealth_17 : decode c_R_setHealth 17 = .ok (.ifCond .ne 5, 3) := by decide +kernel
theorem d_R_setHealth_20 : decode c_R_setHealth 20 = .ok (.iconst 0, 1) := by decide +kernel
theorem d_R_setHealth_21 : decode c_R_setHealth 21 = .ok (.ireturn, 1) := by decide +kernel
theorem d_R_setHealth_22 : decode c_R_setHealth 22 = .ok (.aload_n 0, 1) := by decide +kernel
theorem d_R_setHealth_23 : decode c_R_setHealth 23 = .ok (.iload_n 1, 1) := by decide +kernel
theorem d_R_setHealth_24 : decode c_R_setHealth 24 = .ok (.putfield 18, 3) := by decide +kernel
theorem d_R_setHealth_27 : decode c_R_setHealth 27 = .ok (.aload_n 0, 1) := by decide +kernel
theorem d_R_setHealth_28 : decode c_R_setHealth 28 = .ok (.iload_n 2, 1) := by decide +kernel
theorem d_R_setHealth_29 : decode c_R_setHealth 29 = .ok (.putfield 22, 3) := by decide +kernel
theorem d_R_setHealth_32 : decode c_R_setHealth 32 = .ok (.iconst 1, 1) := by decide +kernel
theorem d_R_setHealth_33 : decode c_R_setHealth 33 = .ok (.ireturn, 1) := by decide +kernel
theorem d_R_begin_0 : decode c_R_begin 0 = .ok (.aload_n 0, 1) := by decide +kernel
theorem d_R_begin_1 : decode c_R_begin 1 = .ok (.getfield 25, 3) := by decide +kernel
theorem d_R_begin_4 : decode c_R_begin 4 = .ok (.ifCond .ne 10, 3) := by decide +kernel
theorem d_R_begin_7 : decode c_R_begin 7 = .ok (.aload_n 0, 1) := by decide +kernel
theorem d_R_begin_8 : decode c_R_begin 8 = .ok (.getfield 41, 3) := by decide +kernel
theorem d_R_begin_11 : decode c_R_begin 11 = .ok (.ifCond .ne 5, 3) := by decide +kernel
theorem d_R_begin_14 : decode c_R_begin 14 = .ok (.iconst 0, 1) := by decide +kernel
theorem d_R_begin_15 : decode c_R_begin 15 = .ok (.ireturn, 1) := by decide +kernel
theorem d_R_begin_16 : decode c_R_begin 16 = .ok (.aload_n 0, 1) := by decide +kernel
theorem d_R_begin_17 : decode c_R_begin 17 = .ok (.iconst 0, 1) := by decide +kernel
theorem d_R_begin_18 : decode c_R_begin 18 = .ok (.iload_n 1, 1) := by decide +kernel
theorem d_R_begin_19 : decode c_R_begin 19 = .ok (.invokevirtual 48, 3) := by decide +kernel
theorem d_R_begin_22 : decode c_R_begin 22 = .ok (.iconst 1, 1) := by decide +kernel
theorem d_R_begin_23 : decode c_R_begin 23 = .ok (.ireturn, 1) := by decide +kernel
theorem d_R_addReports_0 : decode c_R_addReports 0 = .ok (.aload_n 0, 1) := by decide +kernel
theorem d_R_addReports_1 : decode c_R_addReports 1 = .ok (.getfield 25, 3) := by decide +kernel
theorem d_R_addReports_4 : decode c_R_addReports 4 = .ok (.iconst 1, 1) := by decide +kernel
theorem d_R_addReports_5 : decode c_R_addReports 5 = .ok (.if_icmp .ne 25, 3) := by decide +kernel
theorem d_R_addReports_8 : decode c_R_addReports 8 = .ok (.iload_n 1, 1) := by decide +kernel
theorem d_R_addReports_9 : decode c_R_addReports 9 = .ok (.iconst 0, 1) := by decide +kernel
theorem d_R_addReports_10 : decode c_R_addReports 10 = .ok (.sipush 10000, 3) := by decide +kernel
theorem d_R_addReports_13 : decode c_R_addReports 13 = .ok (.invokestatic 44, 3) := by decide +kernel
theorem d_R_addReports_16 : decode c_R_addReports 16 = .ok (.ifCond .eq 14, 3) := by decide +kernel
theorem d_R_addReports_19 : decode c_R_addReports 19 = .ok (.iload_n 2, 1) := by decide +kernel
theorem d_R_addReports_20 : decode c_R_addReports 20 = .ok (.iconst 0, 1) := by decide +kernel
theorem d_R_addReports_21 : decode c_R_addReports 21 = .ok (.sipush 10000, 3) := by decide +kernel
theorem d_R_addReports_24 : decode c_R_addReports 24 = .ok (.invokestatic 44, 3) := by decide +kernel
theorem d_R_addReports_27 : decode c_R_addReports 27 = .ok (.ifCond .ne 5, 3) := by decide +kernel
theorem d_R_addReports_30 : decode c_R_addReports 30 = .ok (.iconst 0, 1) := by decide +kernel
theorem d_R_addReports_31 : decode c_R_addReports 31 = .ok (.ireturn, 1) := by decide +kernel
theorem d_R_addReports_32 : decode c_R_addReports 32 = .ok (.aload_n 0, 1) := by decide +kernel
theorem d_R_addReports_33 : decode c_R_addReports 33 = .ok (.dup, 1) := by decide +kernel
theorem d_R_addReports_34 : decode c_R_addReports 34 = .ok (.getfield 52, 3) := by decide +kernel
theorem d_R_addReports_37 : decode c_R_addReports 37 = .ok (.iload_n 1, 1) := by decide +kernel
theorem d_R_addReports_38 : decode c_R_addReports 38 = .ok (.iadd, 1) := by decide +kernel
theorem d_R_addReports_39 : decode c_R_addReports 39 = .ok (.putfield 52, 3) := by decide +kernel
theorem d_R_addReports_42 : decode c_R_addReports 42 = .ok (.aload_n 0, 1) := by decide +kernel
theorem d_R_addReports_43 : decode c_R_addReports 43 = .ok (.dup, 1) := by decide +kernel
theorem d_R_addReports_44 : decode c_R_addReports 44 = .ok (.getfield 55, 3) := by decide +kernel
theorem d_R_addReports_47 : decode c_R_addReports 47 = .ok (.iload_n 2, 1) := by decide +kernel
theorem d_R_addReports_48 : decode c_R_addReports 48 = .ok (.iadd, 1) := by decide +kernel
theorem d_R_addReports_49 : decode c_R_addReports 49 = .ok (.putfield 55, 3) := by decide +kernel
theorem d_R_addReports_52 : decode c_R_addReports 52 = .ok (.iconst 1, 1) := by decide +kernel
theorem d_R_addReports_53 : decode c_R_addReports 53 = .ok (.ireturn, 1) := by decide +kernel
theorem d_R_holdByHand_0 : decode c_R_holdByHand 0 = .ok (.aload_n 0, 1) := by decide +kernel
theorem d_R_holdByHand_1 : decode c_R_holdByHand 1 = .ok (.getfield 25, 3) := by decide +kernel
theorem d_R_holdByHand_4 : decode c_R_holdByHand 4 = .ok (.iconst 1, 1) := by decide +kernel
theorem d_R_holdByHand_5 : decode c_R_holdByHand 5 = .ok (.if_icmp .eq 5, 3) := by decide +kernel
theorem d_R_holdByHand_8 : decode c_R_holdByHand 8 = .ok (.iconst 0, 1) := by decide +kernel
theorem d_R_holdByHand_9 : decode c_R_holdByHand 9 = .ok (.ireturn, 1) := by decide +kernel
theorem d_R_holdByHand_10 : decode c_R_holdByHand 10 = .ok (.aload_n 0, 1) := by decide +kernel
theorem d_R_holdByHand_11 : decode c_R_holdByHand 11 = .ok (.iconst 3, 1) := by decide +kernel
theorem d_R_holdByHand_12 : decode c_R_holdByHand 12 = .ok (.invokevirtual 58, 3) := by decide +kernel
theorem d_R_holdByHand_15 : decode c_R_holdByHand 15 = .ok (.iconst 1, 1) := by decide +kernel
theorem d_R_holdByHand_16 : decode c_R_holdByHand 16 = .ok (.ireturn, 1) := by decide +kernel
theorem d_R_goOn_0 : decode c_R_goOn 0 = .ok (.aload_n 0, 1) := by decide +kernel
theorem d_R_goOn_1 : decode c_R_goOn 1 = .ok (.getfield 25, 3) := by decide +kernel
theorem d_R_goOn_4 : decode c_R_goOn 4 = .ok (.iconst 2, 1) := by decide +kernel
theorem d_R_goOn_5 : decode c_R_goOn 5 = .ok (.if_icmp .eq 5, 3) := by decide +kernel
theorem d_R_goOn_8 : decode c_R_goOn 8 = .ok (.iconst 0, 1) := by decide +kernel
theorem d_R_goOn_9 : decode c_R_goOn 9 = .ok (.ireturn, 1) := by decide +kernel
theorem d_R_goOn_10 : decode c_R_goOn 10 = .ok (.aload_n 0, 1) := by decide +kernel
theorem d_R_goOn_11 : decode c_R_goOn 11 = .ok (.aload_n 0, 1) := by decide +kernel
theorem d_R_goOn_12 : decode c_R_goOn 12 = .ok (.getfield 62, 3) := by decide +kernel
theorem d_R_goOn_15 : decode c_R_goOn 15 = .ok (.iload_n 1, 1) := by decide +kernel
theorem d_R_goOn_16 : decode c_R_goOn 16 = .ok (.invokevirtual 48, 3) := by decide +kernel
theorem d_R_goOn_19 : decode c_R_goOn 19 = .ok (.iconst 1, 1) := by decide +kernel
theorem d_R_goOn_20 : decode c_R_goOn 20 = .ok (.ireturn, 1) := by decide +kernel
theorem d_R_bar_0 : decode c_R_bar 0 = .ok (.aload_n 0, 1) := by decide +kernel
theorem d_R_bar_1 : decode c_R_bar 1 = .ok (.getfield 25, 3) := by decide +kernel
theorem d_R_bar_4 : decode c_R_bar 4 = .ok (.iconst 4, 1) := by decide +kernel
theorem d_R_bar_5 : decode c_R_bar 5 = .ok (.if_icmp .ne 5, 3) := by decide +kernel
theorem d_R_bar_8 : decode c_R_bar 8 = .ok (.iconst 0, 1) := by decide +kernel
theorem d_R_bar_9 : decode c_R_bar 9 = .ok (.ireturn, 1) := by decide +kernel
theorem d_R_bar_10 : decode c_R_bar 10 = .ok (.aload_n 0, 1) := by decide +kernel
theorem d_R_bar_11 : decode c_R_bar 11 = .ok (.iconst 4, 1) := by decide +kernel
theorem d_R_bar_12 : decode c_R_bar 12 = .ok (.putfield 25, 3) := by decide +kernel
theorem d_R_bar_15 : decode c_R_bar 15 = .ok (.aload_n 0, 1) := by decide +kernel
theorem d_R_bar_16 : decode c_R_bar 16 = .ok (.iconst 0, 1) := by decide +kernel
theorem d_R_bar_17 : decode c_R_bar 17 = .ok (.putfield 28, 3) := by decide +kernel
theorem d_R_bar_20 : decode c_R_bar 20 = .ok (.iconst 1, 1) := by decide +kernel
theorem d_R_bar_21 : decode c_R_bar 21 = .ok (.ireturn, 1) := by decide +kernel
theorem d_R_passTicks_0 : decode c_R_passTicks 0 = .ok (.iload_n 1, 1) := by decide +kernel
theorem d_R_passTicks_1 : decode c_R_passTicks 1 = .ok (.istore_n 3, 1) := by decide +kernel
theorem d_R_passTicks_2 : decode c_R_passTicks 2 = .ok (.iconst 0, 1) := by decide +kernel
theorem d_R_passTicks_3 : decode c_R_passTicks 3 = .ok (.istore 4, 2) := by decide +kernel
theorem d_R_passTicks_5 : decode c_R_passTicks 5 = .ok (.iload 4, 2) := by decide +kernel
theorem d_R_passTicks_7 : decode c_R_passTicks 7 = .ok (.iconst 5, 1) := by decide +kernel
theorem d_R_passTicks_8 : decode c_R_passTicks 8 = .ok (.if_icmp .ge 48, 3) := by decide +kernel
theorem d_R_passTicks_11 : decode c_R_passTicks 11 = .ok (.aload_n 0, 1) := by decide +kernel
theorem d_R_passTicks_12 : decode c_R_passTicks 12 = .ok (.getfield 25, 3) := by decide +kernel
theorem d_R_passTicks_15 : decode c_R_passTicks 15 = .ok (.iconst 1, 1) := by decide +kernel
theorem d_R_passTicks_16 : decode c_R_passTicks 16 = .ok (.if_icmp .ne 40, 3) := by decide +kernel
theorem d_R_passTicks_19 : decode c_R_passTicks 19 = .ok (.iload_n 3, 1) := by decide +kernel
theorem d_R_passTicks_20 : decode c_R_passTicks 20 = .ok (.iconst 1, 1) := by decide +kernel
theorem d_R_passTicks_21 : decode c_R_passTicks 21 = .ok (.iadd, 1) := by decide +kernel
theorem d_R_passTicks_22 : decode c_R_passTicks 22 = .ok (.aload_n 0, 1) := by decide +kernel
theorem d_R_passTicks_23 : decode c_R_passTicks 23 = .ok (.getfield 65, 3) := by decide +kernel
