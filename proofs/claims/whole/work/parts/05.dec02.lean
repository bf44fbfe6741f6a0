theorem d_C_has_5 : decode c_C_has 5 = .ok (.astore_n 2, 1) := by decide +kernel
theorem d_C_has_6 : decode c_C_has 6 = .ok (.aload_n 2, 1) := by decide +kernel
theorem d_C_has_7 : decode c_C_has 7 = .ok (.ifnonnull 7, 3) := by decide +kernel
theorem d_C_has_10 : decode c_C_has 10 = .ok (.iconst (-1), 1) := by decide +kernel
theorem d_C_has_11 : decode c_C_has 11 = .ok (.goto 7, 3) := by decide +kernel
theorem d_C_has_14 : decode c_C_has 14 = .ok (.aload_n 2, 1) := by decide +kernel
theorem d_C_has_15 : decode c_C_has 15 = .ok (.getfield 148, 3) := by decide +kernel
theorem d_C_has_18 : decode c_C_has 18 = .ok (.ireturn, 1) := by decide +kernel
theorem d_C_within_0 : decode c_C_within 0 = .ok (.iload_n 0, 1) := by decide +kernel
theorem d_C_within_1 : decode c_C_within 1 = .ok (.iload_n 1, 1) := by decide +kernel
theorem d_C_within_2 : decode c_C_within 2 = .ok (.if_icmp .lt 12, 3) := by decide +kernel
theorem d_C_within_5 : decode c_C_within 5 = .ok (.iload_n 0, 1) := by decide +kernel
theorem d_C_within_6 : decode c_C_within 6 = .ok (.iload_n 2, 1) := by decide +kernel
theorem d_C_within_7 : decode c_C_within 7 = .ok (.if_icmp .gt 7, 3) := by decide +kernel
theorem d_C_within_10 : decode c_C_within 10 = .ok (.iconst 1, 1) := by decide +kernel
theorem d_C_within_11 : decode c_C_within 11 = .ok (.goto 4, 3) := by decide +kernel
theorem d_C_within_14 : decode c_C_within 14 = .ok (.iconst 0, 1) := by decide +kernel
theorem d_C_within_15 : decode c_C_within 15 = .ok (.ireturn, 1) := by decide +kernel
theorem d_C_isChannel_0 : decode c_C_isChannel 0 = .ok (.iload_n 0, 1) := by decide +kernel
theorem d_C_isChannel_1 : decode c_C_isChannel 1 = .ok (.iconst 0, 1) := by decide +kernel
theorem d_C_isChannel_2 : decode c_C_isChannel 2 = .ok (.iconst 2, 1) := by decide +kernel
theorem d_C_isChannel_3 : decode c_C_isChannel 3 = .ok (.invokestatic 47, 3) := by decide +kernel
theorem d_C_isChannel_6 : decode c_C_isChannel 6 = .ok (.ireturn, 1) := by decide +kernel
theorem d_C_rowOf_0 : decode c_C_rowOf 0 = .ok (.iload_n 0, 1) := by decide +kernel
theorem d_C_rowOf_1 : decode c_C_rowOf 1 = .ok (.iconst 1, 1) := by decide +kernel
theorem d_C_rowOf_2 : decode c_C_rowOf 2 = .ok (.iadd, 1) := by decide +kernel
theorem d_C_rowOf_3 : decode c_C_rowOf 3 = .ok (.i2l, 1) := by decide +kernel
theorem d_C_rowOf_4 : decode c_C_rowOf 4 = .ok (.ldc2_w 151, 3) := by decide +kernel
theorem d_C_rowOf_7 : decode c_C_rowOf 7 = .ok (.lmul, 1) := by decide +kernel
theorem d_C_rowOf_8 : decode c_C_rowOf 8 = .ok (.ldc2_w 153, 3) := by decide +kernel
theorem d_C_rowOf_11 : decode c_C_rowOf 11 = .ok (.land, 1) := by decide +kernel
theorem d_C_rowOf_12 : decode c_C_rowOf 12 = .ok (.lstore_n 1, 1) := by decide +kernel
theorem d_C_rowOf_13 : decode c_C_rowOf 13 = .ok (.lload_n 1, 1) := by decide +kernel
theorem d_C_rowOf_14 : decode c_C_rowOf 14 = .ok (.bipush 7, 2) := by decide +kernel
theorem d_C_rowOf_16 : decode c_C_rowOf 16 = .ok (.lshr, 1) := by decide +kernel
theorem d_C_rowOf_17 : decode c_C_rowOf 17 = .ok (.ldc2_w 155, 3) := by decide +kernel
theorem d_C_rowOf_20 : decode c_C_rowOf 20 = .ok (.lrem, 1) := by decide +kernel
theorem d_C_rowOf_21 : decode c_C_rowOf 21 = .ok (.l2i, 1) := by decide +kernel
theorem d_C_rowOf_22 : decode c_C_rowOf 22 = .ok (.ireturn, 1) := by decide +kernel
theorem d_C_releaseAt_0 : decode c_C_releaseAt 0 = .ok (.iload_n 1, 1) := by decide +kernel
theorem d_C_releaseAt_1 : decode c_C_releaseAt 1 = .ok (.iconst 0, 1) := by decide +kernel
theorem d_C_releaseAt_2 : decode c_C_releaseAt 2 = .ok (.bipush 15, 2) := by decide +kernel
theorem d_C_releaseAt_4 : decode c_C_releaseAt 4 = .ok (.invokestatic 47, 3) := by decide +kernel
theorem d_C_releaseAt_7 : decode c_C_releaseAt 7 = .ok (.ifCond .eq 12, 3) := by decide +kernel
theorem d_C_releaseAt_10 : decode c_C_releaseAt 10 = .ok (.aload_n 0, 1) := by decide +kernel
theorem d_C_releaseAt_11 : decode c_C_releaseAt 11 = .ok (.getfield 11, 3) := by decide +kernel
theorem d_C_releaseAt_14 : decode c_C_releaseAt 14 = .ok (.iload_n 1, 1) := by decide +kernel
theorem d_C_releaseAt_15 : decode c_C_releaseAt 15 = .ok (.aaload, 1) := by decide +kernel
theorem d_C_releaseAt_16 : decode c_C_releaseAt 16 = .ok (.goto 4, 3) := by decide +kernel
theorem d_C_releaseAt_19 : decode c_C_releaseAt 19 = .ok (.aconst_null, 1) := by decide +kernel
theorem d_C_releaseAt_20 : decode c_C_releaseAt 20 = .ok (.areturn, 1) := by decide +kernel
theorem d_C_machineAt_0 : decode c_C_machineAt 0 = .ok (.iload_n 1, 1) := by decide +kernel
theorem d_C_machineAt_1 : decode c_C_machineAt 1 = .ok (.iconst 0, 1) := by decide +kernel
theorem d_C_machineAt_2 : decode c_C_machineAt 2 = .ok (.bipush 29, 2) := by decide +kernel
theorem d_C_machineAt_4 : decode c_C_machineAt 4 = .ok (.invokestatic 47, 3) := by decide +kernel
theorem d_C_machineAt_7 : decode c_C_machineAt 7 = .ok (.ifCond .eq 12, 3) := by decide +kernel
theorem d_C_machineAt_10 : decode c_C_machineAt 10 = .ok (.aload_n 0, 1) := by decide +kernel
theorem d_C_machineAt_11 : decode c_C_machineAt 11 = .ok (.getfield 17, 3) := by decide +kernel
theorem d_C_machineAt_14 : decode c_C_machineAt 14 = .ok (.iload_n 1, 1) := by decide +kernel
theorem d_C_machineAt_15 : decode c_C_machineAt 15 = .ok (.aaload, 1) := by decide +kernel
theorem d_C_machineAt_16 : decode c_C_machineAt 16 = .ok (.goto 4, 3) := by decide +kernel
theorem d_C_machineAt_19 : decode c_C_machineAt 19 = .ok (.aconst_null, 1) := by decide +kernel
theorem d_C_machineAt_20 : decode c_C_machineAt 20 = .ok (.areturn, 1) := by decide +kernel
theorem d_C_offerTo_0 : decode c_C_offerTo 0 = .ok (.aload_n 0, 1) := by decide +kernel
theorem d_C_offerTo_1 : decode c_C_offerTo 1 = .ok (.aload_n 1, 1) := by decide +kernel
theorem d_C_offerTo_2 : decode c_C_offerTo 2 = .ok (.getfield 124, 3) := by decide +kernel
theorem d_C_offerTo_5 : decode c_C_offerTo 5 = .ok (.invokevirtual 54, 3) := by decide +kernel
theorem d_C_offerTo_8 : decode c_C_offerTo 8 = .ok (.astore_n 2, 1) := by decide +kernel
theorem d_C_offerTo_9 : decode c_C_offerTo 9 = .ok (.aload_n 2, 1) := by decide +kernel
theorem d_C_offerTo_10 : decode c_C_offerTo 10 = .ok (.ifnull 16, 3) := by decide +kernel
theorem d_C_offerTo_13 : decode c_C_offerTo 13 = .ok (.aload_n 2, 1) := by decide +kernel
theorem d_C_offerTo_14 : decode c_C_offerTo 14 = .ok (.getfield 88, 3) := by decide +kernel
theorem d_C_offerTo_17 : decode c_C_offerTo 17 = .ok (.iconst 4, 1) := by decide +kernel
theorem d_C_offerTo_18 : decode c_C_offerTo 18 = .ok (.if_icmp .eq 8, 3) := by decide +kernel
theorem d_C_offerTo_21 : decode c_C_offerTo 21 = .ok (.aload_n 1, 1) := by decide +kernel
theorem d_C_offerTo_22 : decode c_C_offerTo 22 = .ok (.getfield 124, 3) := by decide +kernel
theorem d_C_offerTo_25 : decode c_C_offerTo 25 = .ok (.ireturn, 1) := by decide +kernel
theorem d_C_offerTo_26 : decode c_C_offerTo 26 = .ok (.aload_n 0, 1) := by decide +kernel
theorem d_C_offerTo_27 : decode c_C_offerTo 27 = .ok (.aload_n 1, 1) := by decide +kernel
theorem d_C_offerTo_28 : decode c_C_offerTo 28 = .ok (.invokevirtual 157, 3) := by decide +kernel
theorem d_C_offerTo_31 : decode c_C_offerTo 31 = .ok (.istore_n 3, 1) := by decide +kernel
theorem d_C_offerTo_32 : decode c_C_offerTo 32 = .ok (.aload_n 1, 1) := by decide +kernel
theorem d_C_offerTo_33 : decode c_C_offerTo 33 = .ok (.getfield 148, 3) := by decide +kernel
theorem d_C_offerTo_36 : decode c_C_offerTo 36 = .ok (.iload_n 3, 1) := by decide +kernel
theorem d_C_offerTo_37 : decode c_C_offerTo 37 = .ok (.if_icmp .le 18, 3) := by decide +kernel
theorem d_C_offerTo_40 : decode c_C_offerTo 40 = .ok (.aload_n 0, 1) := by decide +kernel
theorem d_C_offerTo_41 : decode c_C_offerTo 41 = .ok (.aload_n 1, 1) := by decide +kernel
theorem d_C_offerTo_42 : decode c_C_offerTo 42 = .ok (.invokevirtual 160, 3) := by decide +kernel
theorem d_C_offerTo_45 : decode c_C_offerTo 45 = .ok (.ifCond .eq 10, 3) := by decide +kernel
theorem d_C_offerTo_48 : decode c_C_offerTo 48 = .ok (.aload_n 1, 1) := by decide +kernel
theorem d_C_offerTo_49 : decode c_C_offerTo 49 = .ok (.getfield 148, 3) := by decide +kernel
theorem d_C_offerTo_52 : decode c_C_offerTo 52 = .ok (.goto 4, 3) := by decide +kernel
theorem d_C_offerTo_55 : decode c_C_offerTo 55 = .ok (.iload_n 3, 1) := by decide +kernel
theorem d_C_offerTo_56 : decode c_C_offerTo 56 = .ok (.ireturn, 1) := by decide +kernel
theorem d_C_newestFor_0 : decode c_C_newestFor 0 = .ok (.aload_n 0, 1) := by decide +kernel
theorem d_C_newestFor_1 : decode c_C_newestFor 1 = .ok (.getfield 38, 3) := by decide +kernel
theorem d_C_newestFor_4 : decode c_C_newestFor 4 = .ok (.iconst 1, 1) := by decide +kernel
theorem d_C_newestFor_5 : decode c_C_newestFor 5 = .ok (.isub, 1) := by decide +kernel
theorem d_C_newestFor_6 : decode c_C_newestFor 6 = .ok (.istore_n 2, 1) := by decide +kernel
theorem d_C_newestFor_7 : decode c_C_newestFor 7 = .ok (.iload_n 2, 1) := by decide +kernel
theorem d_C_newestFor_8 : decode c_C_newestFor 8 = .ok (.ifCond .lt 20, 3) := by decide +kernel
theorem d_C_newestFor_11 : decode c_C_newestFor 11 = .ok (.aload_n 0, 1) := by decide +kernel
theorem d_C_newestFor_12 : decode c_C_newestFor 12 = .ok (.aload_n 1, 1) := by decide +kernel
theorem d_C_newestFor_13 : decode c_C_newestFor 13 = .ok (.iload_n 2, 1) := by decide +kernel
theorem d_C_newestFor_14 : decode c_C_newestFor 14 = .ok (.invokevirtual 131, 3) := by decide +kernel
theorem d_C_newestFor_17 : decode c_C_newestFor 17 = .ok (.ifCond .eq 5, 3) := by decide +kernel
theorem d_C_newestFor_20 : decode c_C_newestFor 20 = .ok (.iload_n 2, 1) := by decide +kernel
theorem d_C_newestFor_21 : decode c_C_newestFor 21 = .ok (.ireturn, 1) := by decide +kernel
theorem d_C_newestFor_22 : decode c_C_newestFor 22 = .ok (.iinc 2 (-1), 3) := by decide +kernel
theorem d_C_newestFor_25 : decode c_C_newestFor 25 = .ok (.goto (-18), 3) := by decide +kernel
theorem d_C_newestFor_28 : decode c_C_newestFor 28 = .ok (.iconst (-1), 1) := by decide +kernel
theorem d_C_newestFor_29 : decode c_C_newestFor 29 = .ok (.ireturn, 1) := by decide +kernel
theorem d_C_mayGet_0 : decode c_C_mayGet 0 = .ok (.aload_n 0, 1) := by decide +kernel
theorem d_C_mayGet_1 : decode c_C_mayGet 1 = .ok (.iload_n 2, 1) := by decide +kernel
theorem d_C_mayGet_2 : decode c_C_mayGet 2 = .ok (.invokevirtual 54, 3) := by decide +kernel
theorem d_C_mayGet_5 : decode c_C_mayGet 5 = .ok (.astore_n 3, 1) := by decide +kernel
theorem d_C_mayGet_6 : decode c_C_mayGet 6 = .ok (.aload_n 3, 1) := by decide +kernel
theorem d_C_mayGet_7 : decode c_C_mayGet 7 = .ok (.ifnull 13, 3) := by decide +kernel
theorem d_C_mayGet_10 : decode c_C_mayGet 10 = .ok (.aload_n 0, 1) := by decide +kernel
theorem d_C_mayGet_11 : decode c_C_mayGet 11 = .ok (.aload_n 1, 1) := by decide +kernel
theorem d_C_mayGet_12 : decode c_C_mayGet 12 = .ok (.aload_n 3, 1) := by decide +kernel
theorem d_C_mayGet_13 : decode c_C_mayGet 13 = .ok (.iload_n 2, 1) := by decide +kernel
theorem d_C_mayGet_14 : decode c_C_mayGet 14 = .ok (.invokevirtual 164, 3) := by decide +kernel
theorem d_C_mayGet_17 : decode c_C_mayGet 17 = .ok (.ifCond .ne 5, 3) := by decide +kernel
theorem d_C_mayGet_20 : decode c_C_mayGet 20 = .ok (.iconst 0, 1) := by decide +kernel
theorem d_C_mayGet_21 : decode c_C_mayGet 21 = .ok (.ireturn, 1) := by decide +kernel
theorem d_C_mayGet_22 : decode c_C_mayGet 22 = .ok (.aload_n 3, 1) := by decide +kernel
theorem d_C_mayGet_23 : decode c_C_mayGet 23 = .ok (.invokevirtual 168, 3) := by decide +kernel
theorem d_C_mayGet_26 : decode c_C_mayGet 26 = .ok (.ifCond .ne 25, 3) := by decide +kernel
theorem d_C_mayGet_29 : decode c_C_mayGet 29 = .ok (.aload_n 1, 1) := by decide +kernel
theorem d_C_mayGet_30 : decode c_C_mayGet 30 = .ok (.getfield 121, 3) := by decide +kernel
theorem d_C_mayGet_33 : decode c_C_mayGet 33 = .ok (.aload_n 3, 1) := by decide +kernel
theorem d_C_mayGet_34 : decode c_C_mayGet 34 = .ok (.invokevirtual 98, 3) := by decide +kernel
theorem d_C_mayGet_37 : decode c_C_mayGet 37 = .ok (.if_icmp .ge 18, 3) := by decide +kernel
theorem d_C_mayGet_40 : decode c_C_mayGet 40 = .ok (.aload_n 3, 1) := by decide +kernel
theorem d_C_mayGet_41 : decode c_C_mayGet 41 = .ok (.aload_n 1, 1) := by decide +kernel
theorem d_C_mayGet_42 : decode c_C_mayGet 42 = .ok (.getfield 171, 3) := by decide +kernel
theorem d_C_mayGet_45 : decode c_C_mayGet 45 = .ok (.invokevirtual 174, 3) := by decide +kernel
theorem d_C_mayGet_48 : decode c_C_mayGet 48 = .ok (.ifCond .eq 7, 3) := by decide +kernel
theorem d_C_mayGet_51 : decode c_C_mayGet 51 = .ok (.iconst 1, 1) := by decide +kernel
theorem d_C_mayGet_52 : decode c_C_mayGet 52 = .ok (.goto 4, 3) := by decide +kernel
theorem d_C_mayGet_55 : decode c_C_mayGet 55 = .ok (.iconst 0, 1) := by decide +kernel
theorem d_C_mayGet_56 : decode c_C_mayGet 56 = .ok (.ireturn, 1) := by decide +kernel
theorem d_C_mayKeep_0 : decode c_C_mayKeep 0 = .ok (.aload_n 0, 1) := by decide +kernel
theorem d_C_mayKeep_1 : decode c_C_mayKeep 1 = .ok (.aload_n 1, 1) := by decide +kernel
theorem d_C_mayKeep_2 : decode c_C_mayKeep 2 = .ok (.getfield 148, 3) := by decide +kernel
theorem d_C_mayKeep_5 : decode c_C_mayKeep 5 = .ok (.invokevirtual 54, 3) := by decide +kernel
theorem d_C_mayKeep_8 : decode c_C_mayKeep 8 = .ok (.astore_n 2, 1) := by decide +kernel
theorem d_C_mayKeep_9 : decode c_C_mayKeep 9 = .ok (.aload_n 2, 1) := by decide +kernel
theorem d_C_mayKeep_10 : decode c_C_mayKeep 10 = .ok (.ifnull 28, 3) := by decide +kernel
theorem d_C_mayKeep_13 : decode c_C_mayKeep 13 = .ok (.aload_n 2, 1) := by decide +kernel
theorem d_C_mayKeep_14 : decode c_C_mayKeep 14 = .ok (.getfield 88, 3) := by decide +kernel
theorem d_C_mayKeep_17 : decode c_C_mayKeep 17 = .ok (.iconst 4, 1) := by decide +kernel
theorem d_C_mayKeep_18 : decode c_C_mayKeep 18 = .ok (.if_icmp .eq 20, 3) := by decide +kernel
theorem d_C_mayKeep_21 : decode c_C_mayKeep 21 = .ok (.aload_n 0, 1) := by decide +kernel
theorem d_C_mayKeep_22 : decode c_C_mayKeep 22 = .ok (.aload_n 1, 1) := by decide +kernel
theorem d_C_mayKeep_23 : decode c_C_mayKeep 23 = .ok (.aload_n 2, 1) := by decide +kernel
theorem d_C_mayKeep_24 : decode c_C_mayKeep 24 = .ok (.aload_n 1, 1) := by decide +kernel
theorem d_C_mayKeep_25 : decode c_C_mayKeep 25 = .ok (.getfield 148, 3) := by decide +kernel
theorem d_C_mayKeep_28 : decode c_C_mayKeep 28 = .ok (.invokevirtual 164, 3) := by decide +kernel
theorem d_C_mayKeep_31 : decode c_C_mayKeep 31 = .ok (.ifCond .eq 7, 3) := by decide +kernel
theorem d_C_mayKeep_34 : decode c_C_mayKeep 34 = .ok (.iconst 1, 1) := by decide +kernel
theorem d_C_mayKeep_35 : decode c_C_mayKeep 35 = .ok (.goto 4, 3) := by decide +kernel
theorem d_C_mayKeep_38 : decode c_C_mayKeep 38 = .ok (.iconst 0, 1) := by decide +kernel
theorem d_C_mayKeep_39 : decode c_C_mayKeep 39 = .ok (.ireturn, 1) := by decide +kernel
theorem d_C_isOpenTo_0 : decode c_C_isOpenTo 0 = .ok (.aload_n 2, 1) := by decide +kernel
theorem d_C_isOpenTo_1 : decode c_C_isOpenTo 1 = .ok (.getfield 104, 3) := by decide +kernel
theorem d_C_isOpenTo_4 : decode c_C_isOpenTo 4 = .ok (.aload_n 1, 1) := by decide +kernel
theorem d_C_isOpenTo_5 : decode c_C_isOpenTo 5 = .ok (.getfield 177, 3) := by decide +kernel
theorem d_C_isOpenTo_8 : decode c_C_isOpenTo 8 = .ok (.if_icmp .ne 21, 3) := by decide +kernel
theorem d_C_isOpenTo_11 : decode c_C_isOpenTo 11 = .ok (.aload_n 1, 1) := by decide +kernel
theorem d_C_isOpenTo_12 : decode c_C_isOpenTo 12 = .ok (.getfield 177, 3) := by decide +kernel
theorem d_C_isOpenTo_15 : decode c_C_isOpenTo 15 = .ok (.iconst 0, 1) := by decide +kernel
theorem d_C_isOpenTo_16 : decode c_C_isOpenTo 16 = .ok (.aload_n 0, 1) := by decide +kernel
theorem d_C_isOpenTo_17 : decode c_C_isOpenTo 17 = .ok (.getfield 21, 3) := by decide +kernel
theorem d_C_isOpenTo_20 : decode c_C_isOpenTo 20 = .ok (.arraylength, 1) := by decide +kernel
theorem d_C_isOpenTo_21 : decode c_C_isOpenTo 21 = .ok (.iconst 1, 1) := by decide +kernel
theorem d_C_isOpenTo_22 : decode c_C_isOpenTo 22 = .ok (.isub, 1) := by decide +kernel
theorem d_C_isOpenTo_23 : decode c_C_isOpenTo 23 = .ok (.invokestatic 47, 3) := by decide +kernel
theorem d_C_isOpenTo_26 : decode c_C_isOpenTo 26 = .ok (.ifCond .ne 5, 3) := by decide +kernel
theorem d_C_isOpenTo_29 : decode c_C_isOpenTo 29 = .ok (.iconst 0, 1) := by decide +kernel
theorem d_C_isOpenTo_30 : decode c_C_isOpenTo 30 = .ok (.ireturn, 1) := by decide +kernel
theorem d_C_isOpenTo_31 : decode c_C_isOpenTo 31 = .ok (.aload_n 0, 1) := by decide +kernel
theorem d_C_isOpenTo_32 : decode c_C_isOpenTo 32 = .ok (.getfield 21, 3) := by decide +kernel
theorem d_C_isOpenTo_35 : decode c_C_isOpenTo 35 = .ok (.aload_n 1, 1) := by decide +kernel
theorem d_C_isOpenTo_36 : decode c_C_isOpenTo 36 = .ok (.getfield 177, 3) := by decide +kernel
theorem d_C_isOpenTo_39 : decode c_C_isOpenTo 39 = .ok (.iaload, 1) := by decide +kernel
theorem d_C_isOpenTo_40 : decode c_C_isOpenTo 40 = .ok (.istore 4, 2) := by decide +kernel
theorem d_C_isOpenTo_42 : decode c_C_isOpenTo 42 = .ok (.iload 4, 2) := by decide +kernel
theorem d_C_isOpenTo_44 : decode c_C_isOpenTo 44 = .ok (.iconst (-1), 1) := by decide +kernel
theorem d_C_isOpenTo_45 : decode c_C_isOpenTo 45 = .ok (.if_icmp .eq 9, 3) := by decide +kernel
theorem d_C_isOpenTo_48 : decode c_C_isOpenTo 48 = .ok (.iload_n 3, 1) := by decide +kernel
theorem d_C_isOpenTo_49 : decode c_C_isOpenTo 49 = .ok (.iload 4, 2) := by decide +kernel
theorem d_C_isOpenTo_51 : decode c_C_isOpenTo 51 = .ok (.if_icmp .gt 7, 3) := by decide +kernel
theorem d_C_isOpenTo_54 : decode c_C_isOpenTo 54 = .ok (.iconst 1, 1) := by decide +kernel
theorem d_C_isOpenTo_55 : decode c_C_isOpenTo 55 = .ok (.goto 4, 3) := by decide +kernel
theorem d_C_isOpenTo_58 : decode c_C_isOpenTo 58 = .ok (.iconst 0, 1) := by decide +kernel
theorem d_C_isOpenTo_59 : decode c_C_isOpenTo 59 = .ok (.ireturn, 1) := by decide +kernel
theorem d_C_findWay_0 : decode c_C_findWay 0 = .ok (.aload_n 0, 1) := by decide +kernel
theorem d_C_findWay_1 : decode c_C_findWay 1 = .ok (.aload_n 1, 1) := by decide +kernel
theorem d_C_findWay_2 : decode c_C_findWay 2 = .ok (.invokevirtual 127, 3) := by decide +kernel
theorem d_C_findWay_5 : decode c_C_findWay 5 = .ok (.istore_n 2, 1) := by decide +kernel
theorem d_C_findWay_6 : decode c_C_findWay 6 = .ok (.aload_n 0, 1) := by decide +kernel
theorem d_C_findWay_7 : decode c_C_findWay 7 = .ok (.iload_n 2, 1) := by decide +kernel
theorem d_C_findWay_8 : decode c_C_findWay 8 = .ok (.invokevirtual 54, 3) := by decide +kernel
theorem d_C_findWay_11 : decode c_C_findWay 11 = .ok (.astore_n 3, 1) := by decide +kernel
theorem d_C_findWay_12 : decode c_C_findWay 12 = .ok (.aload_n 3, 1) := by decide +kernel
theorem d_C_findWay_13 : decode c_C_findWay 13 = .ok (.ifnull 11, 3) := by decide +kernel
theorem d_C_findWay_16 : decode c_C_findWay 16 = .ok (.iload_n 2, 1) := by decide +kernel
theorem d_C_findWay_17 : decode c_C_findWay 17 = .ok (.aload_n 1, 1) := by decide +kernel
theorem d_C_findWay_18 : decode c_C_findWay 18 = .ok (.getfield 148, 3) := by decide +kernel
theorem d_C_findWay_21 : decode c_C_findWay 21 = .ok (.if_icmp .ne 13, 3) := by decide +kernel
theorem d_C_findWay_24 : decode c_C_findWay 24 = .ok (.aload_n 0, 1) := by decide +kernel
theorem d_C_findWay_25 : decode c_C_findWay 25 = .ok (.getfield 28, 3) := by decide +kernel
theorem d_C_findWay_28 : decode c_C_findWay 28 = .ok (.iconst 0, 1) := by decide +kernel
theorem d_C_findWay_29 : decode c_C_findWay 29 = .ok (.iconst 0, 1) := by decide +kernel
theorem d_C_findWay_30 : decode c_C_findWay 30 = .ok (.invokevirtual 178, 3) := by decide +kernel
theorem d_C_findWay_33 : decode c_C_findWay 33 = .ok (.return_, 1) := by decide +kernel
theorem d_C_findWay_34 : decode c_C_findWay 34 = .ok (.aload_n 0, 1) := by decide +kernel
theorem d_C_findWay_35 : decode c_C_findWay 35 = .ok (.getfield 28, 3) := by decide +kernel
theorem d_C_findWay_38 : decode c_C_findWay 38 = .ok (.aload_n 3, 1) := by decide +kernel
theorem d_C_findWay_39 : decode c_C_findWay 39 = .ok (.getfield 181, 3) := by decide +kernel
theorem d_C_findWay_42 : decode c_C_findWay 42 = .ok (.iconst 0, 1) := by decide +kernel
theorem d_C_findWay_43 : decode c_C_findWay 43 = .ok (.invokevirtual 178, 3) := by decide +kernel
theorem d_C_findWay_46 : decode c_C_findWay 46 = .ok (.aload_n 1, 1) := by decide +kernel
theorem d_C_findWay_47 : decode c_C_findWay 47 = .ok (.getfield 148, 3) := by decide +kernel
theorem d_C_findWay_50 : decode c_C_findWay 50 = .ok (.iconst (-1), 1) := by decide +kernel
theorem d_C_findWay_51 : decode c_C_findWay 51 = .ok (.if_icmp .eq 19, 3) := by decide +kernel
theorem d_C_findWay_54 : decode c_C_findWay 54 = .ok (.aload_n 0, 1) := by decide +kernel
theorem d_C_findWay_55 : decode c_C_findWay 55 = .ok (.getfield 28, 3) := by decide +kernel
theorem d_C_findWay_58 : decode c_C_findWay 58 = .ok (.aload_n 1, 1) := by decide +kernel
theorem d_C_findWay_59 : decode c_C_findWay 59 = .ok (.getfield 148, 3) := by decide +kernel
theorem d_C_findWay_62 : decode c_C_findWay 62 = .ok (.iload_n 2, 1) := by decide +kernel
theorem d_C_findWay_63 : decode c_C_findWay 63 = .ok (.aload_n 0, 1) := by decide +kernel
theorem d_C_findWay_64 : decode c_C_findWay 64 = .ok (.getfield 11, 3) := by decide +kernel
theorem d_C_findWay_67 : decode c_C_findWay 67 = .ok (.invokevirtual 184, 3) := by decide +kernel
theorem d_C_findWay_70 : decode c_C_findWay 70 = .ok (.return_, 1) := by decide +kernel
theorem d_T_init_0 : decode c_T_init 0 = .ok (.aload_n 0, 1) := by decide +kernel
theorem d_T_init_1 : decode c_T_init 1 = .ok (.invokespecial 1, 3) := by decide +kernel
theorem d_T_init_4 : decode c_T_init 4 = .ok (.aload_n 0, 1) := by decide +kernel
theorem d_T_init_5 : decode c_T_init 5 = .ok (.bipush 16, 2) := by decide +kernel
theorem d_T_init_7 : decode c_T_init 7 = .ok (.newarray .int, 2) := by decide +kernel
theorem d_T_init_9 : decode c_T_init 9 = .ok (.putfield 7, 3) := by decide +kernel
theorem d_T_init_12 : decode c_T_init 12 = .ok (.aload_n 0, 1) := by decide +kernel
theorem d_T_init_13 : decode c_T_init 13 = .ok (.bipush 16, 2) := by decide +kernel
theorem d_T_init_15 : decode c_T_init 15 = .ok (.newarray .int, 2) := by decide +kernel
theorem d_T_init_17 : decode c_T_init 17 = .ok (.putfield 13, 3) := by decide +kernel
theorem d_T_init_20 : decode c_T_init 20 = .ok (.aload_n 0, 1) := by decide +kernel
theorem d_T_init_21 : decode c_T_init 21 = .ok (.bipush 16, 2) := by decide +kernel
theorem d_T_init_23 : decode c_T_init 23 = .ok (.newarray .int, 2) := by decide +kernel
theorem d_T_init_25 : decode c_T_init 25 = .ok (.putfield 16, 3) := by decide +kernel
theorem d_T_init_28 : decode c_T_init 28 = .ok (.aload_n 0, 1) := by decide +kernel
theorem d_T_init_29 : decode c_T_init 29 = .ok (.bipush 80, 2) := by decide +kernel
theorem d_T_init_31 : decode c_T_init 31 = .ok (.newarray .int, 2) := by decide +kernel
theorem d_T_init_33 : decode c_T_init 33 = .ok (.putfield 19, 3) := by decide +kernel
theorem d_T_init_36 : decode c_T_init 36 = .ok (.aload_n 0, 1) := by decide +kernel
theorem d_T_init_37 : decode c_T_init 37 = .ok (.bipush 80, 2) := by decide +kernel
theorem d_T_init_39 : decode c_T_init 39 = .ok (.newarray .int, 2) := by decide +kernel
theorem d_T_init_41 : decode c_T_init 41 = .ok (.putfield 22, 3) := by decide +kernel
theorem d_T_init_44 : decode c_T_init 44 = .ok (.aload_n 0, 1) := by decide +kernel
theorem d_T_init_45 : decode c_T_init 45 = .ok (.bipush 16, 2) := by decide +kernel
theorem d_T_init_47 : decode c_T_init 47 = .ok (.newarray .int, 2) := by decide +kernel
theorem d_T_init_49 : decode c_T_init 49 = .ok (.putfield 25, 3) := by decide +kernel
theorem d_T_init_52 : decode c_T_init 52 = .ok (.aload_n 0, 1) := by decide +kernel
theorem d_T_init_53 : decode c_T_init 53 = .ok (.bipush 16, 2) := by decide +kernel
theorem d_T_init_55 : decode c_T_init 55 = .ok (.newarray .int, 2) := by decide +kernel
theorem d_T_init_57 : decode c_T_init 57 = .ok (.putfield 28, 3) := by decide +kernel
theorem d_T_init_60 : decode c_T_init 60 = .ok (.aload_n 0, 1) := by decide +kernel
theorem d_T_init_61 : decode c_T_init 61 = .ok (.bipush 16, 2) := by decide +kernel
theorem d_T_init_63 : decode c_T_init 63 = .ok (.newarray .int, 2) := by decide +kernel
theorem d_T_init_65 : decode c_T_init 65 = .ok (.putfield 31, 3) := by decide +kernel
theorem d_T_init_68 : decode c_T_init 68 = .ok (.aload_n 0, 1) := by decide +kernel
theorem d_T_init_69 : decode c_T_init 69 = .ok (.bipush 16, 2) := by decide +kernel
theorem d_T_init_71 : decode c_T_init 71 = .ok (.newarray .int, 2) := by decide +kernel
theorem d_T_init_73 : decode c_T_init 73 = .ok (.putfield 34, 3) := by decide +kernel
theorem d_T_init_76 : decode c_T_init 76 = .ok (.aload_n 0, 1) := by decide +kernel
theorem d_T_init_77 : decode c_T_init 77 = .ok (.bipush 16, 2) := by decide +kernel
theorem d_T_init_79 : decode c_T_init 79 = .ok (.newarray .int, 2) := by decide +kernel
theorem d_T_init_81 : decode c_T_init 81 = .ok (.putfield 37, 3) := by decide +kernel
theorem d_T_init_84 : decode c_T_init 84 = .ok (.aload_n 0, 1) := by decide +kernel
theorem d_T_init_85 : decode c_T_init 85 = .ok (.bipush 16, 2) := by decide +kernel
theorem d_T_init_87 : decode c_T_init 87 = .ok (.newarray .int, 2) := by decide +kernel
theorem d_T_init_89 : decode c_T_init 89 = .ok (.putfield 40, 3) := by decide +kernel
theorem d_T_init_92 : decode c_T_init 92 = .ok (.aload_n 0, 1) := by decide +kernel
theorem d_T_init_93 : decode c_T_init 93 = .ok (.bipush 16, 2) := by decide +kernel
theorem d_T_init_95 : decode c_T_init 95 = .ok (.newarray .int, 2) := by decide +kernel
theorem d_T_init_97 : decode c_T_init 97 = .ok (.putfield 43, 3) := by decide +kernel
theorem d_T_init_100 : decode c_T_init 100 = .ok (.aload_n 0, 1) := by decide +kernel
theorem d_T_init_101 : decode c_T_init 101 = .ok (.bipush 16, 2) := by decide +kernel
theorem d_T_init_103 : decode c_T_init 103 = .ok (.newarray .int, 2) := by decide +kernel
theorem d_T_init_105 : decode c_T_init 105 = .ok (.putfield 46, 3) := by decide +kernel
theorem d_T_init_108 : decode c_T_init 108 = .ok (.aload_n 0, 1) := by decide +kernel
theorem d_T_init_109 : decode c_T_init 109 = .ok (.bipush 16, 2) := by decide +kernel
theorem d_T_init_111 : decode c_T_init 111 = .ok (.newarray .boolean, 2) := by decide +kernel
theorem d_T_init_113 : decode c_T_init 113 = .ok (.putfield 49, 3) := by decide +kernel
theorem d_T_init_116 : decode c_T_init 116 = .ok (.aload_n 0, 1) := by decide +kernel
theorem d_T_init_117 : decode c_T_init 117 = .ok (.iconst 3, 1) := by decide +kernel
theorem d_T_init_118 : decode c_T_init 118 = .ok (.newarray .int, 2) := by decide +kernel
theorem d_T_init_120 : decode c_T_init 120 = .ok (.putfield 53, 3) := by decide +kernel
theorem d_T_init_123 : decode c_T_init 123 = .ok (.aload_n 0, 1) := by decide +kernel
theorem d_T_init_124 : decode c_T_init 124 = .ok (.bipush 30, 2) := by decide +kernel
theorem d_T_init_126 : decode c_T_init 126 = .ok (.newarray .int, 2) := by decide +kernel
theorem d_T_init_128 : decode c_T_init 128 = .ok (.putfield 56, 3) := by decide +kernel
theorem d_T_init_131 : decode c_T_init 131 = .ok (.aload_n 0, 1) := by decide +kernel
theorem d_T_init_132 : decode c_T_init 132 = .ok (.bipush 30, 2) := by decide +kernel
theorem d_T_init_134 : decode c_T_init 134 = .ok (.newarray .int, 2) := by decide +kernel
theorem d_T_init_136 : decode c_T_init 136 = .ok (.putfield 59, 3) := by decide +kernel
theorem d_T_init_139 : decode c_T_init 139 = .ok (.aload_n 0, 1) := by decide +kernel
theorem d_T_init_140 : decode c_T_init 140 = .ok (.bipush 30, 2) := by decide +kernel
theorem d_T_init_142 : decode c_T_init 142 = .ok (.newarray .int, 2) := by decide +kernel
theorem d_T_init_144 : decode c_T_init 144 = .ok (.putfield 62, 3) := by decide +kernel
theorem d_T_init_147 : decode c_T_init 147 = .ok (.aload_n 0, 1) := by decide +kernel
theorem d_T_init_148 : decode c_T_init 148 = .ok (.bipush 30, 2) := by decide +kernel
theorem d_T_init_150 : decode c_T_init 150 = .ok (.newarray .int, 2) := by decide +kernel
theorem d_T_init_152 : decode c_T_init 152 = .ok (.putfield 65, 3) := by decide +kernel
theorem d_T_init_155 : decode c_T_init 155 = .ok (.aload_n 0, 1) := by decide +kernel
theorem d_T_init_156 : decode c_T_init 156 = .ok (.bipush 40, 2) := by decide +kernel
theorem d_T_init_158 : decode c_T_init 158 = .ok (.newarray .int, 2) := by decide +kernel
theorem d_T_init_160 : decode c_T_init 160 = .ok (.putfield 68, 3) := by decide +kernel
theorem d_T_init_163 : decode c_T_init 163 = .ok (.aload_n 0, 1) := by decide +kernel
theorem d_T_init_164 : decode c_T_init 164 = .ok (.bipush 40, 2) := by decide +kernel
theorem d_T_init_166 : decode c_T_init 166 = .ok (.newarray .int, 2) := by decide +kernel
theorem d_T_init_168 : decode c_T_init 168 = .ok (.putfield 71, 3) := by decide +kernel
theorem d_T_init_171 : decode c_T_init 171 = .ok (.aload_n 0, 1) := by decide +kernel
theorem d_T_init_172 : decode c_T_init 172 = .ok (.bipush 40, 2) := by decide +kernel
theorem d_T_init_174 : decode c_T_init 174 = .ok (.newarray .int, 2) := by decide +kernel
theorem d_T_init_176 : decode c_T_init 176 = .ok (.putfield 74, 3) := by decide +kernel
theorem d_T_init_179 : decode c_T_init 179 = .ok (.aload_n 0, 1) := by decide +kernel
theorem d_T_init_180 : decode c_T_init 180 = .ok (.bipush 16, 2) := by decide +kernel
theorem d_T_init_182 : decode c_T_init 182 = .ok (.newarray .int, 2) := by decide +kernel
theorem d_T_init_184 : decode c_T_init 184 = .ok (.putfield 77, 3) := by decide +kernel
theorem d_T_init_187 : decode c_T_init 187 = .ok (.aload_n 0, 1) := by decide +kernel
theorem d_T_init_188 : decode c_T_init 188 = .ok (.bipush 16, 2) := by decide +kernel
theorem d_T_init_190 : decode c_T_init 190 = .ok (.newarray .int, 2) := by decide +kernel
theorem d_T_init_192 : decode c_T_init 192 = .ok (.putfield 80, 3) := by decide +kernel
theorem d_T_init_195 : decode c_T_init 195 = .ok (.aload_n 0, 1) := by decide +kernel
theorem d_T_init_196 : decode c_T_init 196 = .ok (.bipush 16, 2) := by decide +kernel
theorem d_T_init_198 : decode c_T_init 198 = .ok (.newarray .int, 2) := by decide +kernel
theorem d_T_init_200 : decode c_T_init 200 = .ok (.putfield 83, 3) := by decide +kernel
theorem d_T_init_203 : decode c_T_init 203 = .ok (.aload_n 0, 1) := by decide +kernel
theorem d_T_init_204 : decode c_T_init 204 = .ok (.bipush 16, 2) := by decide +kernel
theorem d_T_init_206 : decode c_T_init 206 = .ok (.newarray .int, 2) := by decide +kernel
theorem d_T_init_208 : decode c_T_init 208 = .ok (.putfield 86, 3) := by decide +kernel
theorem d_T_init_211 : decode c_T_init 211 = .ok (.iconst 0, 1) := by decide +kernel
theorem d_T_init_212 : decode c_T_init 212 = .ok (.istore_n 1, 1) := by decide +kernel
theorem d_T_init_213 : decode c_T_init 213 = .ok (.iload_n 1, 1) := by decide +kernel
theorem d_T_init_214 : decode c_T_init 214 = .ok (.iconst 3, 1) := by decide +kernel
theorem d_T_init_215 : decode c_T_init 215 = .ok (.if_icmp .ge 16, 3) := by decide +kernel
theorem d_T_init_218 : decode c_T_init 218 = .ok (.aload_n 0, 1) := by decide +kernel
theorem d_T_init_219 : decode c_T_init 219 = .ok (.getfield 53, 3) := by decide +kernel
theorem d_T_init_222 : decode c_T_init 222 = .ok (.iload_n 1, 1) := by decide +kernel
theorem d_T_init_223 : decode c_T_init 223 = .ok (.iconst (-1), 1) := by decide +kernel
theorem d_T_init_224 : decode c_T_init 224 = .ok (.iastore, 1) := by decide +kernel
theorem d_T_init_225 : decode c_T_init 225 = .ok (.iinc 1 1, 3) := by decide +kernel
theorem d_T_init_228 : decode c_T_init 228 = .ok (.goto (-15), 3) := by decide +kernel
theorem d_T_init_231 : decode c_T_init 231 = .ok (.return_, 1) := by decide +kernel
theorem d_T_isRelease_0 : decode c_T_isRelease 0 = .ok (.iload_n 1, 1) := by decide +kernel
theorem d_T_isRelease_1 : decode c_T_isRelease 1 = .ok (.ifCond .lt 15, 3) := by decide +kernel
theorem d_T_isRelease_4 : decode c_T_isRelease 4 = .ok (.iload_n 1, 1) := by decide +kernel
theorem d_T_isRelease_5 : decode c_T_isRelease 5 = .ok (.aload_n 0, 1) := by decide +kernel
theorem d_T_isRelease_6 : decode c_T_isRelease 6 = .ok (.getfield 93, 3) := by decide +kernel
theorem d_T_isRelease_9 : decode c_T_isRelease 9 = .ok (.if_icmp .ge 7, 3) := by decide +kernel
theorem d_T_isRelease_12 : decode c_T_isRelease 12 = .ok (.iconst 1, 1) := by decide +kernel
theorem d_T_isRelease_13 : decode c_T_isRelease 13 = .ok (.goto 4, 3) := by decide +kernel
theorem d_T_isRelease_16 : decode c_T_isRelease 16 = .ok (.iconst 0, 1) := by decide +kernel
theorem d_T_isRelease_17 : decode c_T_isRelease 17 = .ok (.ireturn, 1) := by decide +kernel
theorem d_T_isMachine_0 : decode c_T_isMachine 0 = .ok (.iload_n 1, 1) := by decide +kernel
theorem d_T_isMachine_1 : decode c_T_isMachine 1 = .ok (.ifCond .lt 15, 3) := by decide +kernel
theorem d_T_isMachine_4 : decode c_T_isMachine 4 = .ok (.iload_n 1, 1) := by decide +kernel
theorem d_T_isMachine_5 : decode c_T_isMachine 5 = .ok (.aload_n 0, 1) := by decide +kernel
theorem d_T_isMachine_6 : decode c_T_isMachine 6 = .ok (.getfield 96, 3) := by decide +kernel
theorem d_T_isMachine_9 : decode c_T_isMachine 9 = .ok (.if_icmp .ge 7, 3) := by decide +kernel
theorem d_T_isMachine_12 : decode c_T_isMachine 12 = .ok (.iconst 1, 1) := by decide +kernel
theorem d_T_isMachine_13 : decode c_T_isMachine 13 = .ok (.goto 4, 3) := by decide +kernel
theorem d_T_isMachine_16 : decode c_T_isMachine 16 = .ok (.iconst 0, 1) := by decide +kernel
theorem d_T_isMachine_17 : decode c_T_isMachine 17 = .ok (.ireturn, 1) := by decide +kernel
theorem d_T_isWithin_0 : decode c_T_isWithin 0 = .ok (.iload_n 0, 1) := by decide +kernel
theorem d_T_isWithin_1 : decode c_T_isWithin 1 = .ok (.iload_n 1, 1) := by decide +kernel
theorem d_T_isWithin_2 : decode c_T_isWithin 2 = .ok (.if_icmp .lt 12, 3) := by decide +kernel
theorem d_T_isWithin_5 : decode c_T_isWithin 5 = .ok (.iload_n 0, 1) := by decide +kernel
theorem d_T_isWithin_6 : decode c_T_isWithin 6 = .ok (.iload_n 2, 1) := by decide +kernel
theorem d_T_isWithin_7 : decode c_T_isWithin 7 = .ok (.if_icmp .gt 7, 3) := by decide +kernel
theorem d_T_isWithin_10 : decode c_T_isWithin 10 = .ok (.iconst 1, 1) := by decide +kernel
theorem d_T_isWithin_11 : decode c_T_isWithin 11 = .ok (.goto 4, 3) := by decide +kernel
theorem d_T_isWithin_14 : decode c_T_isWithin 14 = .ok (.iconst 0, 1) := by decide +kernel
theorem d_T_isWithin_15 : decode c_T_isWithin 15 = .ok (.ireturn, 1) := by decide +kernel
theorem d_T_release_0 : decode c_T_release 0 = .ok (.aload_n 0, 1) := by decide +kernel
theorem d_T_release_1 : decode c_T_release 1 = .ok (.iconst 0, 1) := by decide +kernel
theorem d_T_release_2 : decode c_T_release 2 = .ok (.putfield 89, 3) := by decide +kernel
theorem d_T_release_5 : decode c_T_release 5 = .ok (.aload_n 0, 1) := by decide +kernel
theorem d_T_release_6 : decode c_T_release 6 = .ok (.getfield 93, 3) := by decide +kernel
theorem d_T_release_9 : decode c_T_release 9 = .ok (.bipush 16, 2) := by decide +kernel
theorem d_T_release_11 : decode c_T_release 11 = .ok (.if_icmp .eq 22, 3) := by decide +kernel
theorem d_T_release_14 : decode c_T_release 14 = .ok (.iload_n 1, 1) := by decide +kernel
theorem d_T_release_15 : decode c_T_release 15 = .ok (.iconst 0, 1) := by decide +kernel
theorem d_T_release_16 : decode c_T_release 16 = .ok (.iconst 2, 1) := by decide +kernel
theorem d_T_release_17 : decode c_T_release 17 = .ok (.invokestatic 99, 3) := by decide +kernel
theorem d_T_release_20 : decode c_T_release 20 = .ok (.ifCond .eq 13, 3) := by decide +kernel
theorem d_T_release_23 : decode c_T_release 23 = .ok (.iload_n 3, 1) := by decide +kernel
theorem d_T_release_24 : decode c_T_release 24 = .ok (.iconst 1, 1) := by decide +kernel
theorem d_T_release_25 : decode c_T_release 25 = .ok (.ldc 103, 2) := by decide +kernel
theorem d_T_release_27 : decode c_T_release 27 = .ok (.invokestatic 99, 3) := by decide +kernel
theorem d_T_release_30 : decode c_T_release 30 = .ok (.ifCond .ne 5, 3) := by decide +kernel
theorem d_T_release_33 : decode c_T_release 33 = .ok (.iconst (-1), 1) := by decide +kernel
theorem d_T_release_34 : decode c_T_release 34 = .ok (.ireturn, 1) := by decide +kernel
theorem d_T_release_35 : decode c_T_release 35 = .ok (.aload_n 0, 1) := by decide +kernel
theorem d_T_release_36 : decode c_T_release 36 = .ok (.getfield 7, 3) := by decide +kernel
theorem d_T_release_39 : decode c_T_release 39 = .ok (.aload_n 0, 1) := by decide +kernel
theorem d_T_release_40 : decode c_T_release 40 = .ok (.getfield 93, 3) := by decide +kernel
theorem d_T_release_43 : decode c_T_release 43 = .ok (.iload_n 1, 1) := by decide +kernel
theorem d_T_release_44 : decode c_T_release 44 = .ok (.iastore, 1) := by decide +kernel
theorem d_T_release_45 : decode c_T_release 45 = .ok (.aload_n 0, 1) := by decide +kernel
theorem d_T_release_46 : decode c_T_release 46 = .ok (.getfield 49, 3) := by decide +kernel
theorem d_T_release_49 : decode c_T_release 49 = .ok (.aload_n 0, 1) := by decide +kernel
theorem d_T_release_50 : decode c_T_release 50 = .ok (.getfield 93, 3) := by decide +kernel
theorem d_T_release_53 : decode c_T_release 53 = .ok (.iload_n 2, 1) := by decide +kernel
theorem d_T_release_54 : decode c_T_release 54 = .ok (.bastore, 1) := by decide +kernel
theorem d_T_release_55 : decode c_T_release 55 = .ok (.aload_n 0, 1) := by decide +kernel
theorem d_T_release_56 : decode c_T_release 56 = .ok (.getfield 13, 3) := by decide +kernel
theorem d_T_release_59 : decode c_T_release 59 = .ok (.aload_n 0, 1) := by decide +kernel
