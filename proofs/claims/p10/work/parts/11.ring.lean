theorem dX2_firstOpenDay_0 : decode cX2_firstOpenDay 0 = .ok (.iconst 0, 1) := by decide +kernel
theorem dX2_firstOpenDay_1 : decode cX2_firstOpenDay 1 = .ok (.aload_n 0, 1) := by decide +kernel
theorem dX2_firstOpenDay_2 : decode cX2_firstOpenDay 2 = .ok (.getfield 69, 3) := by decide +kernel
theorem dX2_firstOpenDay_5 : decode cX2_firstOpenDay 5 = .ok (.iconst 1, 1) := by decide +kernel
theorem dX2_firstOpenDay_6 : decode cX2_firstOpenDay 6 = .ok (.iadd, 1) := by decide +kernel
theorem dX2_firstOpenDay_7 : decode cX2_firstOpenDay 7 = .ok (.invokestatic 146, 3) := by decide +kernel
theorem dX2_firstOpenDay_10 : decode cX2_firstOpenDay 10 = .ok (.istore_n 1, 1) := by decide +kernel
theorem dX2_firstOpenDay_11 : decode cX2_firstOpenDay 11 = .ok (.iload_n 1, 1) := by decide +kernel
theorem dX2_firstOpenDay_12 : decode cX2_firstOpenDay 12 = .ok (.sipush 999, 3) := by decide +kernel
theorem dX2_firstOpenDay_15 : decode cX2_firstOpenDay 15 = .ok (.if_icmp .gt 28, 3) := by decide +kernel
theorem dX2_firstOpenDay_18 : decode cX2_firstOpenDay 18 = .ok (.aload_n 0, 1) := by decide +kernel
theorem dX2_firstOpenDay_19 : decode cX2_firstOpenDay 19 = .ok (.iload_n 1, 1) := by decide +kernel
theorem dX2_firstOpenDay_20 : decode cX2_firstOpenDay 20 = .ok (.invokevirtual 135, 3) := by decide +kernel
theorem dX2_firstOpenDay_23 : decode cX2_firstOpenDay 23 = .ok (.astore_n 2, 1) := by decide +kernel
theorem dX2_firstOpenDay_24 : decode cX2_firstOpenDay 24 = .ok (.aload_n 2, 1) := by decide +kernel
theorem dX2_firstOpenDay_25 : decode cX2_firstOpenDay 25 = .ok (.ifnull 10, 3) := by decide +kernel
theorem dX2_firstOpenDay_28 : decode cX2_firstOpenDay 28 = .ok (.aload_n 2, 1) := by decide +kernel
theorem dX2_firstOpenDay_29 : decode cX2_firstOpenDay 29 = .ok (.invokevirtual 151, 3) := by decide +kernel
theorem dX2_firstOpenDay_32 : decode cX2_firstOpenDay 32 = .ok (.ifCond .eq 5, 3) := by decide +kernel
theorem dX2_firstOpenDay_35 : decode cX2_firstOpenDay 35 = .ok (.iload_n 1, 1) := by decide +kernel
theorem dX2_firstOpenDay_36 : decode cX2_firstOpenDay 36 = .ok (.ireturn, 1) := by decide +kernel
theorem dX2_firstOpenDay_37 : decode cX2_firstOpenDay 37 = .ok (.iinc 1 1, 3) := by decide +kernel
theorem dX2_firstOpenDay_40 : decode cX2_firstOpenDay 40 = .ok (.goto (-29), 3) := by decide +kernel
theorem dX2_firstOpenDay_43 : decode cX2_firstOpenDay 43 = .ok (.sipush 1000, 3) := by decide +kernel
theorem dX2_firstOpenDay_46 : decode cX2_firstOpenDay 46 = .ok (.ireturn, 1) := by decide +kernel
theorem dX2_factOf_0 : decode cX2_factOf 0 = .ok (.iload_n 1, 1) := by decide +kernel
theorem dX2_factOf_1 : decode cX2_factOf 1 = .ok (.tableswitch 114 0 9 #[55, 60, 65, 70, 75, 80, 85, 93, 101, 109], 55) := by decide +kernel
theorem dX2_factOf_56 : decode cX2_factOf 56 = .ok (.aload_n 0, 1) := by decide +kernel
theorem dX2_factOf_57 : decode cX2_factOf 57 = .ok (.getfield 66, 3) := by decide +kernel
theorem dX2_factOf_60 : decode cX2_factOf 60 = .ok (.ireturn, 1) := by decide +kernel
theorem dX2_factOf_61 : decode cX2_factOf 61 = .ok (.aload_n 0, 1) := by decide +kernel
theorem dX2_factOf_62 : decode cX2_factOf 62 = .ok (.getfield 69, 3) := by decide +kernel
theorem dX2_factOf_65 : decode cX2_factOf 65 = .ok (.ireturn, 1) := by decide +kernel
theorem dX2_factOf_66 : decode cX2_factOf 66 = .ok (.aload_n 0, 1) := by decide +kernel
theorem dX2_factOf_67 : decode cX2_factOf 67 = .ok (.getfield 154, 3) := by decide +kernel
theorem dX2_factOf_70 : decode cX2_factOf 70 = .ok (.ireturn, 1) := by decide +kernel
theorem dX2_factOf_71 : decode cX2_factOf 71 = .ok (.aload_n 0, 1) := by decide +kernel
theorem dX2_factOf_72 : decode cX2_factOf 72 = .ok (.getfield 157, 3) := by decide +kernel
theorem dX2_factOf_75 : decode cX2_factOf 75 = .ok (.ireturn, 1) := by decide +kernel
theorem dX2_factOf_76 : decode cX2_factOf 76 = .ok (.aload_n 0, 1) := by decide +kernel
theorem dX2_factOf_77 : decode cX2_factOf 77 = .ok (.getfield 85, 3) := by decide +kernel
theorem dX2_factOf_80 : decode cX2_factOf 80 = .ok (.ireturn, 1) := by decide +kernel
theorem dX2_factOf_81 : decode cX2_factOf 81 = .ok (.aload_n 0, 1) := by decide +kernel
theorem dX2_factOf_82 : decode cX2_factOf 82 = .ok (.getfield 121, 3) := by decide +kernel
theorem dX2_factOf_85 : decode cX2_factOf 85 = .ok (.ireturn, 1) := by decide +kernel
theorem dX2_factOf_86 : decode cX2_factOf 86 = .ok (.aload_n 0, 1) := by decide +kernel
theorem dX2_factOf_87 : decode cX2_factOf 87 = .ok (.getfield 48, 3) := by decide +kernel
theorem dX2_factOf_90 : decode cX2_factOf 90 = .ok (.getfield 178, 3) := by decide +kernel
theorem dX2_factOf_93 : decode cX2_factOf 93 = .ok (.ireturn, 1) := by decide +kernel
theorem dX2_factOf_94 : decode cX2_factOf 94 = .ok (.aload_n 0, 1) := by decide +kernel
theorem dX2_factOf_95 : decode cX2_factOf 95 = .ok (.getfield 52, 3) := by decide +kernel
theorem dX2_factOf_98 : decode cX2_factOf 98 = .ok (.getfield 178, 3) := by decide +kernel
theorem dX2_factOf_101 : decode cX2_factOf 101 = .ok (.ireturn, 1) := by decide +kernel
theorem dX2_factOf_102 : decode cX2_factOf 102 = .ok (.aload_n 0, 1) := by decide +kernel
theorem dX2_factOf_103 : decode cX2_factOf 103 = .ok (.getfield 77, 3) := by decide +kernel
theorem dX2_factOf_106 : decode cX2_factOf 106 = .ok (.getfield 181, 3) := by decide +kernel
theorem dX2_factOf_109 : decode cX2_factOf 109 = .ok (.ireturn, 1) := by decide +kernel
theorem dX2_factOf_110 : decode cX2_factOf 110 = .ok (.aload_n 0, 1) := by decide +kernel
theorem dX2_factOf_111 : decode cX2_factOf 111 = .ok (.invokevirtual 182, 3) := by decide +kernel
theorem dX2_factOf_114 : decode cX2_factOf 114 = .ok (.ireturn, 1) := by decide +kernel
theorem dX2_factOf_115 : decode cX2_factOf 115 = .ok (.iconst (-1), 1) := by decide +kernel
theorem dX2_factOf_116 : decode cX2_factOf 116 = .ok (.ireturn, 1) := by decide +kernel
theorem dX5_forget_0 : decode cX5_forget 0 = .ok (.aload_n 0, 1) := by decide +kernel
theorem dX5_forget_1 : decode cX5_forget 1 = .ok (.iconst 0, 1) := by decide +kernel
theorem dX5_forget_2 : decode cX5_forget 2 = .ok (.putfield 18, 3) := by decide +kernel
theorem dX5_forget_5 : decode cX5_forget 5 = .ok (.return_, 1) := by decide +kernel
theorem dX5_houseAtStep_0 : decode cX5_houseAtStep 0 = .ok (.iload_n 1, 1) := by decide +kernel
theorem dX5_houseAtStep_1 : decode cX5_houseAtStep 1 = .ok (.ifCond .lt 26, 3) := by decide +kernel
theorem dX5_houseAtStep_4 : decode cX5_houseAtStep 4 = .ok (.iload_n 1, 1) := by decide +kernel
theorem dX5_houseAtStep_5 : decode cX5_houseAtStep 5 = .ok (.aload_n 0, 1) := by decide +kernel
theorem dX5_houseAtStep_6 : decode cX5_houseAtStep 6 = .ok (.getfield 18, 3) := by decide +kernel
theorem dX5_houseAtStep_9 : decode cX5_houseAtStep 9 = .ok (.if_icmp .ge 18, 3) := by decide +kernel
theorem dX5_houseAtStep_12 : decode cX5_houseAtStep 12 = .ok (.iload_n 1, 1) := by decide +kernel
theorem dX5_houseAtStep_13 : decode cX5_houseAtStep 13 = .ok (.bipush 8, 2) := by decide +kernel
theorem dX5_houseAtStep_15 : decode cX5_houseAtStep 15 = .ok (.if_icmp .ge 12, 3) := by decide +kernel
theorem dX5_houseAtStep_18 : decode cX5_houseAtStep 18 = .ok (.aload_n 0, 1) := by decide +kernel
theorem dX5_houseAtStep_19 : decode cX5_houseAtStep 19 = .ok (.getfield 15, 3) := by decide +kernel
theorem dX5_houseAtStep_22 : decode cX5_houseAtStep 22 = .ok (.iload_n 1, 1) := by decide +kernel
theorem dX5_houseAtStep_23 : decode cX5_houseAtStep 23 = .ok (.iaload, 1) := by decide +kernel
theorem dX5_houseAtStep_24 : decode cX5_houseAtStep 24 = .ok (.goto 4, 3) := by decide +kernel
theorem dX5_houseAtStep_27 : decode cX5_houseAtStep 27 = .ok (.iconst (-1), 1) := by decide +kernel
theorem dX5_houseAtStep_28 : decode cX5_houseAtStep 28 = .ok (.ireturn, 1) := by decide +kernel
theorem dX5_trace_0 : decode cX5_trace 0 = .ok (.iload_n 3, 1) := by decide +kernel
theorem dX5_trace_1 : decode cX5_trace 1 = .ok (.ifCond .lt 21, 3) := by decide +kernel
theorem dX5_trace_4 : decode cX5_trace 4 = .ok (.iload_n 3, 1) := by decide +kernel
theorem dX5_trace_5 : decode cX5_trace 5 = .ok (.bipush 8, 2) := by decide +kernel
theorem dX5_trace_7 : decode cX5_trace 7 = .ok (.if_icmp .ge 15, 3) := by decide +kernel
theorem dX5_trace_10 : decode cX5_trace 10 = .ok (.iload 4, 2) := by decide +kernel
theorem dX5_trace_12 : decode cX5_trace 12 = .ok (.ifCond .lt 10, 3) := by decide +kernel
theorem dX5_trace_15 : decode cX5_trace 15 = .ok (.iload 4, 2) := by decide +kernel
theorem dX5_trace_17 : decode cX5_trace 17 = .ok (.bipush 8, 2) := by decide +kernel
theorem dX5_trace_19 : decode cX5_trace 19 = .ok (.if_icmp .lt 5, 3) := by decide +kernel
theorem dX5_trace_22 : decode cX5_trace 22 = .ok (.iconst 0, 1) := by decide +kernel
theorem dX5_trace_23 : decode cX5_trace 23 = .ok (.ireturn, 1) := by decide +kernel
theorem dX5_trace_24 : decode cX5_trace 24 = .ok (.aload_n 0, 1) := by decide +kernel
theorem dX5_trace_25 : decode cX5_trace 25 = .ok (.aload_n 1, 1) := by decide +kernel
theorem dX5_trace_26 : decode cX5_trace 26 = .ok (.iload_n 2, 1) := by decide +kernel
theorem dX5_trace_27 : decode cX5_trace 27 = .ok (.iload 4, 2) := by decide +kernel
theorem dX5_trace_29 : decode cX5_trace 29 = .ok (.invokevirtual 22, 3) := by decide +kernel
theorem dX5_trace_32 : decode cX5_trace 32 = .ok (.aload_n 0, 1) := by decide +kernel
theorem dX5_trace_33 : decode cX5_trace 33 = .ok (.getfield 9, 3) := by decide +kernel
theorem dX5_trace_36 : decode cX5_trace 36 = .ok (.iload_n 3, 1) := by decide +kernel
theorem dX5_trace_37 : decode cX5_trace 37 = .ok (.iaload, 1) := by decide +kernel
theorem dX5_trace_38 : decode cX5_trace 38 = .ok (.ifCond .ne 5, 3) := by decide +kernel
theorem dX5_trace_41 : decode cX5_trace 41 = .ok (.iconst 0, 1) := by decide +kernel
theorem dX5_trace_42 : decode cX5_trace 42 = .ok (.ireturn, 1) := by decide +kernel
theorem dX5_trace_43 : decode cX5_trace 43 = .ok (.iload_n 3, 1) := by decide +kernel
theorem dX5_trace_44 : decode cX5_trace 44 = .ok (.istore 5, 2) := by decide +kernel
theorem dX5_trace_46 : decode cX5_trace 46 = .ok (.aload_n 0, 1) := by decide +kernel
theorem dX5_trace_47 : decode cX5_trace 47 = .ok (.bipush 8, 2) := by decide +kernel
theorem dX5_trace_49 : decode cX5_trace 49 = .ok (.aload_n 0, 1) := by decide +kernel
theorem dX5_trace_50 : decode cX5_trace 50 = .ok (.getfield 9, 3) := by decide +kernel
theorem dX5_trace_53 : decode cX5_trace 53 = .ok (.iload_n 3, 1) := by decide +kernel
theorem dX5_trace_54 : decode cX5_trace 54 = .ok (.iaload, 1) := by decide +kernel
theorem dX5_trace_55 : decode cX5_trace 55 = .ok (.invokestatic 26, 3) := by decide +kernel
theorem dX5_trace_58 : decode cX5_trace 58 = .ok (.putfield 18, 3) := by decide +kernel
theorem dX5_trace_61 : decode cX5_trace 61 = .ok (.iconst 0, 1) := by decide +kernel
theorem dX5_trace_62 : decode cX5_trace 62 = .ok (.istore 6, 2) := by decide +kernel
theorem dX5_trace_64 : decode cX5_trace 64 = .ok (.iload 6, 2) := by decide +kernel
theorem dX5_trace_66 : decode cX5_trace 66 = .ok (.aload_n 0, 1) := by decide +kernel
theorem dX5_trace_67 : decode cX5_trace 67 = .ok (.getfield 18, 3) := by decide +kernel
theorem dX5_trace_70 : decode cX5_trace 70 = .ok (.if_icmp .ge 28, 3) := by decide +kernel
theorem dX5_trace_73 : decode cX5_trace 73 = .ok (.aload_n 0, 1) := by decide +kernel
theorem dX5_trace_74 : decode cX5_trace 74 = .ok (.getfield 15, 3) := by decide +kernel
theorem dX5_trace_77 : decode cX5_trace 77 = .ok (.iload 6, 2) := by decide +kernel
theorem dX5_trace_79 : decode cX5_trace 79 = .ok (.iload 5, 2) := by decide +kernel
theorem dX5_trace_81 : decode cX5_trace 81 = .ok (.iastore, 1) := by decide +kernel
theorem dX5_trace_82 : decode cX5_trace 82 = .ok (.aload_n 0, 1) := by decide +kernel
theorem dX5_trace_83 : decode cX5_trace 83 = .ok (.aload_n 1, 1) := by decide +kernel
theorem dX5_trace_84 : decode cX5_trace 84 = .ok (.iload_n 2, 1) := by decide +kernel
theorem dX5_trace_85 : decode cX5_trace 85 = .ok (.iload 5, 2) := by decide +kernel
theorem dX5_trace_87 : decode cX5_trace 87 = .ok (.invokevirtual 32, 3) := by decide +kernel
theorem dX5_trace_90 : decode cX5_trace 90 = .ok (.istore 5, 2) := by decide +kernel
theorem dX5_trace_92 : decode cX5_trace 92 = .ok (.iinc 6 1, 3) := by decide +kernel
theorem dX5_trace_95 : decode cX5_trace 95 = .ok (.goto (-31), 3) := by decide +kernel
theorem dX5_trace_98 : decode cX5_trace 98 = .ok (.iconst 1, 1) := by decide +kernel
theorem dX5_trace_99 : decode cX5_trace 99 = .ok (.ireturn, 1) := by decide +kernel
theorem dX5_measure_0 : decode cX5_measure 0 = .ok (.aload_n 0, 1) := by decide +kernel
theorem dX5_measure_1 : decode cX5_measure 1 = .ok (.getfield 9, 3) := by decide +kernel
theorem dX5_measure_4 : decode cX5_measure 4 = .ok (.iconst 0, 1) := by decide +kernel
theorem dX5_measure_5 : decode cX5_measure 5 = .ok (.invokestatic 36, 3) := by decide +kernel
theorem dX5_measure_8 : decode cX5_measure 8 = .ok (.aload_n 0, 1) := by decide +kernel
theorem dX5_measure_9 : decode cX5_measure 9 = .ok (.getfield 9, 3) := by decide +kernel
theorem dX5_measure_12 : decode cX5_measure 12 = .ok (.iload_n 3, 1) := by decide +kernel
theorem dX5_measure_13 : decode cX5_measure 13 = .ok (.iconst 1, 1) := by decide +kernel
theorem dX5_measure_14 : decode cX5_measure 14 = .ok (.iastore, 1) := by decide +kernel
theorem dX5_measure_15 : decode cX5_measure 15 = .ok (.iconst 1, 1) := by decide +kernel
theorem dX5_measure_16 : decode cX5_measure 16 = .ok (.istore 4, 2) := by decide +kernel
theorem dX5_measure_18 : decode cX5_measure 18 = .ok (.iload 4, 2) := by decide +kernel
theorem dX5_measure_20 : decode cX5_measure 20 = .ok (.bipush 8, 2) := by decide +kernel
theorem dX5_measure_22 : decode cX5_measure 22 = .ok (.if_icmp .ge 65, 3) := by decide +kernel
theorem dX5_measure_25 : decode cX5_measure 25 = .ok (.iconst 0, 1) := by decide +kernel
theorem dX5_measure_26 : decode cX5_measure 26 = .ok (.istore 5, 2) := by decide +kernel
theorem dX5_measure_28 : decode cX5_measure 28 = .ok (.iload 5, 2) := by decide +kernel
theorem dX5_measure_30 : decode cX5_measure 30 = .ok (.iload_n 2, 1) := by decide +kernel
theorem dX5_measure_31 : decode cX5_measure 31 = .ok (.if_icmp .ge 50, 3) := by decide +kernel
theorem dX5_measure_34 : decode cX5_measure 34 = .ok (.iload 5, 2) := by decide +kernel
theorem dX5_measure_36 : decode cX5_measure 36 = .ok (.bipush 8, 2) := by decide +kernel
theorem dX5_measure_38 : decode cX5_measure 38 = .ok (.if_icmp .ge 43, 3) := by decide +kernel
theorem dX5_measure_41 : decode cX5_measure 41 = .ok (.aload_n 1, 1) := by decide +kernel
theorem dX5_measure_42 : decode cX5_measure 42 = .ok (.iload 5, 2) := by decide +kernel
theorem dX5_measure_44 : decode cX5_measure 44 = .ok (.aaload, 1) := by decide +kernel
theorem dX5_measure_45 : decode cX5_measure 45 = .ok (.astore 6, 2) := by decide +kernel
theorem dX5_measure_47 : decode cX5_measure 47 = .ok (.aload 6, 2) := by decide +kernel
theorem dX5_measure_49 : decode cX5_measure 49 = .ok (.ifnull 26, 3) := by decide +kernel
theorem dX5_measure_52 : decode cX5_measure 52 = .ok (.aload_n 0, 1) := by decide +kernel
theorem dX5_measure_53 : decode cX5_measure 53 = .ok (.getfield 9, 3) := by decide +kernel
theorem dX5_measure_56 : decode cX5_measure 56 = .ok (.iload 5, 2) := by decide +kernel
theorem dX5_measure_58 : decode cX5_measure 58 = .ok (.iaload, 1) := by decide +kernel
theorem dX5_measure_59 : decode cX5_measure 59 = .ok (.iload 4, 2) := by decide +kernel
theorem dX5_measure_61 : decode cX5_measure 61 = .ok (.if_icmp .ne 14, 3) := by decide +kernel
theorem dX5_measure_64 : decode cX5_measure 64 = .ok (.aload_n 0, 1) := by decide +kernel
theorem dX5_measure_65 : decode cX5_measure 65 = .ok (.aload 6, 2) := by decide +kernel
theorem dX5_measure_67 : decode cX5_measure 67 = .ok (.iload_n 2, 1) := by decide +kernel
theorem dX5_measure_68 : decode cX5_measure 68 = .ok (.iload 4, 2) := by decide +kernel
theorem dX5_measure_70 : decode cX5_measure 70 = .ok (.iconst 1, 1) := by decide +kernel
theorem dX5_measure_71 : decode cX5_measure 71 = .ok (.iadd, 1) := by decide +kernel
theorem dX5_measure_72 : decode cX5_measure 72 = .ok (.invokevirtual 42, 3) := by decide +kernel
theorem dX5_measure_75 : decode cX5_measure 75 = .ok (.iinc 5 1, 3) := by decide +kernel
theorem dX5_measure_78 : decode cX5_measure 78 = .ok (.goto (-50), 3) := by decide +kernel
theorem dX5_measure_81 : decode cX5_measure 81 = .ok (.iinc 4 1, 3) := by decide +kernel
theorem dX5_measure_84 : decode cX5_measure 84 = .ok (.goto (-66), 3) := by decide +kernel
theorem dX5_measure_87 : decode cX5_measure 87 = .ok (.return_, 1) := by decide +kernel
theorem dX5_markOwners_0 : decode cX5_markOwners 0 = .ok (.iconst 0, 1) := by decide +kernel
theorem dX5_markOwners_1 : decode cX5_markOwners 1 = .ok (.istore 4, 2) := by decide +kernel
theorem dX5_markOwners_3 : decode cX5_markOwners 3 = .ok (.iload 4, 2) := by decide +kernel
theorem dX5_markOwners_5 : decode cX5_markOwners 5 = .ok (.iload_n 2, 1) := by decide +kernel
theorem dX5_markOwners_6 : decode cX5_markOwners 6 = .ok (.if_icmp .ge 43, 3) := by decide +kernel
theorem dX5_markOwners_9 : decode cX5_markOwners 9 = .ok (.iload 4, 2) := by decide +kernel
theorem dX5_markOwners_11 : decode cX5_markOwners 11 = .ok (.bipush 8, 2) := by decide +kernel
theorem dX5_markOwners_13 : decode cX5_markOwners 13 = .ok (.if_icmp .ge 36, 3) := by decide +kernel
theorem dX5_markOwners_16 : decode cX5_markOwners 16 = .ok (.aload_n 0, 1) := by decide +kernel
theorem dX5_markOwners_17 : decode cX5_markOwners 17 = .ok (.getfield 9, 3) := by decide +kernel
theorem dX5_markOwners_20 : decode cX5_markOwners 20 = .ok (.iload 4, 2) := by decide +kernel
theorem dX5_markOwners_22 : decode cX5_markOwners 22 = .ok (.iaload, 1) := by decide +kernel
theorem dX5_markOwners_23 : decode cX5_markOwners 23 = .ok (.ifCond .ne 20, 3) := by decide +kernel
theorem dX5_markOwners_26 : decode cX5_markOwners 26 = .ok (.aload_n 1, 1) := by decide +kernel
theorem dX5_markOwners_27 : decode cX5_markOwners 27 = .ok (.iload 4, 2) := by decide +kernel
theorem dX5_markOwners_29 : decode cX5_markOwners 29 = .ok (.invokevirtual 46, 3) := by decide +kernel
theorem dX5_markOwners_32 : decode cX5_markOwners 32 = .ok (.ifCond .eq 11, 3) := by decide +kernel
theorem dX5_markOwners_35 : decode cX5_markOwners 35 = .ok (.aload_n 0, 1) := by decide +kernel
theorem dX5_markOwners_36 : decode cX5_markOwners 36 = .ok (.getfield 9, 3) := by decide +kernel
theorem dX5_markOwners_39 : decode cX5_markOwners 39 = .ok (.iload 4, 2) := by decide +kernel
theorem dX5_markOwners_41 : decode cX5_markOwners 41 = .ok (.iload_n 3, 1) := by decide +kernel
theorem dX5_markOwners_42 : decode cX5_markOwners 42 = .ok (.iastore, 1) := by decide +kernel
theorem dX5_markOwners_43 : decode cX5_markOwners 43 = .ok (.iinc 4 1, 3) := by decide +kernel
theorem dX5_markOwners_46 : decode cX5_markOwners 46 = .ok (.goto (-43), 3) := by decide +kernel
theorem dX5_markOwners_49 : decode cX5_markOwners 49 = .ok (.return_, 1) := by decide +kernel
theorem dX5_nextTowards_0 : decode cX5_nextTowards 0 = .ok (.iload_n 3, 1) := by decide +kernel
theorem dX5_nextTowards_1 : decode cX5_nextTowards 1 = .ok (.ifCond .lt 20, 3) := by decide +kernel
theorem dX5_nextTowards_4 : decode cX5_nextTowards 4 = .ok (.iload_n 3, 1) := by decide +kernel
theorem dX5_nextTowards_5 : decode cX5_nextTowards 5 = .ok (.bipush 8, 2) := by decide +kernel
theorem dX5_nextTowards_7 : decode cX5_nextTowards 7 = .ok (.if_icmp .ge 14, 3) := by decide +kernel
theorem dX5_nextTowards_10 : decode cX5_nextTowards 10 = .ok (.aload_n 0, 1) := by decide +kernel
theorem dX5_nextTowards_11 : decode cX5_nextTowards 11 = .ok (.getfield 9, 3) := by decide +kernel
theorem dX5_nextTowards_14 : decode cX5_nextTowards 14 = .ok (.iload_n 3, 1) := by decide +kernel
theorem dX5_nextTowards_15 : decode cX5_nextTowards 15 = .ok (.iaload, 1) := by decide +kernel
theorem dX5_nextTowards_16 : decode cX5_nextTowards 16 = .ok (.iconst 1, 1) := by decide +kernel
theorem dX5_nextTowards_17 : decode cX5_nextTowards 17 = .ok (.isub, 1) := by decide +kernel
theorem dX5_nextTowards_18 : decode cX5_nextTowards 18 = .ok (.goto 4, 3) := by decide +kernel
theorem dX5_nextTowards_22 : decode cX5_nextTowards 22 = .ok (.istore 4, 2) := by decide +kernel
theorem dX5_nextTowards_24 : decode cX5_nextTowards 24 = .ok (.iconst 0, 1) := by decide +kernel
theorem dX5_nextTowards_25 : decode cX5_nextTowards 25 = .ok (.istore 5, 2) := by decide +kernel
theorem dX5_nextTowards_27 : decode cX5_nextTowards 27 = .ok (.iload 5, 2) := by decide +kernel
theorem dX5_nextTowards_29 : decode cX5_nextTowards 29 = .ok (.iload_n 2, 1) := by decide +kernel
theorem dX5_nextTowards_30 : decode cX5_nextTowards 30 = .ok (.if_icmp .ge 56, 3) := by decide +kernel
theorem dX5_nextTowards_33 : decode cX5_nextTowards 33 = .ok (.iload 5, 2) := by decide +kernel
theorem dX5_nextTowards_35 : decode cX5_nextTowards 35 = .ok (.bipush 8, 2) := by decide +kernel
theorem dX5_nextTowards_37 : decode cX5_nextTowards 37 = .ok (.if_icmp .ge 49, 3) := by decide +kernel
theorem dX5_nextTowards_40 : decode cX5_nextTowards 40 = .ok (.iload 4, 2) := by decide +kernel
theorem dX5_nextTowards_42 : decode cX5_nextTowards 42 = .ok (.ifCond .le 44, 3) := by decide +kernel
theorem dX5_nextTowards_45 : decode cX5_nextTowards 45 = .ok (.aload_n 1, 1) := by decide +kernel
theorem dX5_nextTowards_46 : decode cX5_nextTowards 46 = .ok (.iload 5, 2) := by decide +kernel
theorem dX5_nextTowards_48 : decode cX5_nextTowards 48 = .ok (.aaload, 1) := by decide +kernel
theorem dX5_nextTowards_49 : decode cX5_nextTowards 49 = .ok (.astore 6, 2) := by decide +kernel
theorem dX5_nextTowards_51 : decode cX5_nextTowards 51 = .ok (.aload 6, 2) := by decide +kernel
theorem dX5_nextTowards_53 : decode cX5_nextTowards 53 = .ok (.ifnull 27, 3) := by decide +kernel
theorem dX5_nextTowards_56 : decode cX5_nextTowards 56 = .ok (.aload_n 0, 1) := by decide +kernel
theorem dX5_nextTowards_57 : decode cX5_nextTowards 57 = .ok (.getfield 9, 3) := by decide +kernel
theorem dX5_nextTowards_60 : decode cX5_nextTowards 60 = .ok (.iload 5, 2) := by decide +kernel
theorem dX5_nextTowards_62 : decode cX5_nextTowards 62 = .ok (.iaload, 1) := by decide +kernel
theorem dX5_nextTowards_63 : decode cX5_nextTowards 63 = .ok (.iload 4, 2) := by decide +kernel
theorem dX5_nextTowards_65 : decode cX5_nextTowards 65 = .ok (.if_icmp .ne 15, 3) := by decide +kernel
theorem dX5_nextTowards_68 : decode cX5_nextTowards 68 = .ok (.aload 6, 2) := by decide +kernel
theorem dX5_nextTowards_70 : decode cX5_nextTowards 70 = .ok (.iload_n 3, 1) := by decide +kernel
theorem dX5_nextTowards_71 : decode cX5_nextTowards 71 = .ok (.invokevirtual 46, 3) := by decide +kernel
theorem dX5_nextTowards_74 : decode cX5_nextTowards 74 = .ok (.ifCond .eq 6, 3) := by decide +kernel
theorem dX5_nextTowards_77 : decode cX5_nextTowards 77 = .ok (.iload 5, 2) := by decide +kernel
theorem dX5_nextTowards_79 : decode cX5_nextTowards 79 = .ok (.ireturn, 1) := by decide +kernel
theorem dX5_nextTowards_80 : decode cX5_nextTowards 80 = .ok (.iinc 5 1, 3) := by decide +kernel
theorem dX5_nextTowards_83 : decode cX5_nextTowards 83 = .ok (.goto (-56), 3) := by decide +kernel
theorem dX5_nextTowards_86 : decode cX5_nextTowards 86 = .ok (.iconst (-1), 1) := by decide +kernel
theorem dX5_nextTowards_87 : decode cX5_nextTowards 87 = .ok (.ireturn, 1) := by decide +kernel
theorem wd_296 : Cond.fieldLink RX5 18 RX5 "length" "I" ∈ lw_good := mem_t1 71 (by decide +kernel) rfl
theorem wd_297 : Cond.fieldLink RX5 15 RX5 "found" "[I" ∈ lw_good := mem_t1 70 (by decide +kernel) rfl
theorem wd_298 : Cond.fieldLink RX5 9 RX5 "far" "[I" ∈ lw_good := mem_t1 69 (by decide +kernel) rfl
theorem wd_299 : Cond.methodLink RX5 46 yX2_isOwnedBy ∈ lw_good := mem_t2 165 (by decide +kernel) rfl
theorem wd_300 : Cond.instanceMethod yX2_isOwnedBy ∈ lw_good := mem_t2 166 (by decide +kernel) rfl
theorem wd_301 : Cond.selects RX2 yX2_isOwnedBy yX2_isOwnedBy ∈ lw_good := mem_t2 167 (by decide +kernel) rfl
theorem wd_302 : Cond.code yX2_isOwnedBy cX2_isOwnedBy 2 (some .boolean) ∈ lw_good := mem_t2 168 rfl rfl
theorem wd_303 : Cond.methodLink RX5 36 yJ7_fill_53178 ∈ lw_good := mem_t2 158 (by decide +kernel) rfl
theorem wd_304 : Cond.static yJ7_fill_53178 ∈ lw_good := mem_t2 159 (by decide +kernel) rfl
theorem wd_305 : Cond.code yJ7_fill_53178 cJ7_fill_53178 4 none ∈ lw_good := mem_t2 160 rfl rfl
theorem wd_306 : Cond.methodLink RX5 42 yX5_markOwners ∈ lw_good := mem_t2 161 (by decide +kernel) rfl
theorem wd_307 : Cond.instanceMethod yX5_markOwners ∈ lw_good := mem_t2 163 (by decide +kernel) rfl
theorem wd_308 : Cond.selects RX5 yX5_markOwners yX5_markOwners ∈ lw_good := mem_p 6 (by decide +kernel) rfl
theorem wd_309 : Cond.initialized RX5 ∈ lw_good := mem_t1 3 (by decide +kernel) rfl
theorem wd_310 : Cond.code yX5_markOwners cX5_markOwners 5 none ∈ lw_good := mem_t2 164 rfl rfl
theorem wd_311 : Cond.methodLink RX5 22 yX5_measure ∈ lw_good := mem_t2 154 (by decide +kernel) rfl
theorem wd_312 : Cond.instanceMethod yX5_measure ∈ lw_good := mem_t2 156 (by decide +kernel) rfl
theorem wd_313 : Cond.selects RX5 yX5_measure yX5_measure ∈ lw_good := mem_p 5 (by decide +kernel) rfl
theorem wd_314 : Cond.code yX5_measure cX5_measure 7 none ∈ lw_good := mem_t2 157 rfl rfl
theorem wd_315 : Cond.methodLink RX5 26 Lib.Math.min.name ∈ lw_good := mem_t2 169 (by decide +kernel) rfl
theorem wd_316 : Cond.methodLink RX5 32 yX5_nextTowards ∈ lw_good := mem_t2 172 (by decide +kernel) rfl
theorem wd_317 : Cond.instanceMethod yX5_nextTowards ∈ lw_good := mem_t2 174 (by decide +kernel) rfl
theorem wd_318 : Cond.selects RX5 yX5_nextTowards yX5_nextTowards ∈ lw_good := mem_p 7 (by decide +kernel) rfl
theorem wd_319 : Cond.code yX5_nextTowards cX5_nextTowards 7 (some .int) ∈ lw_good := mem_t2 175 rfl rfl
theorem wd_320 : Cond.methodLink RX2 151 yX3_lacksEntries ∈ lw_good := mem_t3 226 (by decide +kernel) rfl
theorem wd_321 : Cond.fieldLink RX2 48 RX2 "moves" "LPartnersBook$DaySums;" ∈ lw_good := mem_t2 3 (by decide +kernel) rfl
theorem wd_322 : Cond.fieldLink RX2 178 RX1 "count" "I" ∈ lw_good := mem_t1 155 (by decide +kernel) rfl
theorem wd_323 : Cond.fieldLink RX2 52 RX2 "mends" "LPartnersBook$DaySums;" ∈ lw_good := mem_t2 6 (by decide +kernel) rfl
theorem wd_324 : Cond.fieldLink RX2 77 RX2 "closing" "LPartnersBook$Closing;" ∈ lw_good := mem_t2 12 (by decide +kernel) rfl
theorem wd_325 : Cond.fieldLink RX2 181 RX0 "count" "I" ∈ lw_good := mem_t1 194 (by decide +kernel) rfl
theorem wd_326 : Cond.methodLink RX2 182 yX2_firstOpenDay ∈ lw_good := mem_t5 61 (by decide +kernel) rfl
theorem wd_327 : Cond.instanceMethod yX2_firstOpenDay ∈ lw_good := mem_t3 222 (by decide +kernel) rfl
theorem wd_328 : Cond.selects RX2 yX2_firstOpenDay yX2_firstOpenDay ∈ lw_good := mem_t3 223 (by decide +kernel) rfl
theorem wd_329 : Cond.code yX2_firstOpenDay cX2_firstOpenDay 3 (some .int) ∈ lw_good := mem_t3 224 rfl rfl
set_option maxHeartbeats 4000000 in
set_option maxRecDepth 100000 in
theorem s_X2_firstOpenDay (l : Launch) (D : va_G) (cy : Nat → ClassId) (K : Kp) (L : List Nat) (M : Hp) (sz : Nat) (oa : Nat) (hW : WOK cy K L M) (ia : isk K L oa 2 0) : Met l yX2_firstOpenDay (wsM yX2_firstOpenDay cX2_firstOpenDay 3 (some .int)) ({ frames := 2, cells := 0, slots := 0, locals := 41 }) (va_Pc [.ref oa] (PG D cy [] L M sz)) (va_Qi (fun (r : Int32) (_ : Unit) => True) (fun _ t => PQ D [] L M (va_A ([] ++ va_pl L M) sz) t) (va_A ([] ++ va_pl L M) sz)) 0 0 (va_A ([] ++ va_pl L M) sz) := by
  refine Met.ofW (cc := cX2_firstOpenDay) (maxL := 3) (ret := (some .int)) (by decide) rfl ?_
  intro p e s m args below meth c s₁ B hml hv
  obtain ⟨rfl, hsz, hP, hK, hD0, hN⟩ := hv
  have hx := B.exec
  have hb := B.bytes
  have hr := B.returns
  have hts := atoms_spec (ws := (wsM yX2_firstOpenDay cX2_firstOpenDay 3 (some .int))) B.pre
  have hg : ∀ w ∈ lw_good, w.before _ s = true := fun w h => hts w (List.mem_cons_of_mem _ h)
  have hown : s.vm.findClass RX2 = some m.cls := findClass_of_methodNamed B.named
  have hlocks := B.notSynchronized
  subst hsz
  have hD := hD0.self (sz := s.heap.size)
  generalize hAe : va_A ([] ++ va_pl L M) s.heap.size = A at hD ⊢
  have hA : ∀ q : Nat, s.heap.size ≤ q → A q := fun q h => by rw [← hAe]; exact Or.inr h
  have hS : va_S A s.heap s.heap [] := va_S.rf
  have hl := lv_entry ([.ref oa]) (n := 3) (Nat.le_of_ble_eq_true rfl)
  rw [lg_entry_eq]
  generalize (lg_sl ([.ref oa]) ++ List.replicate (3 - (lg_sl ([.ref oa])).length) Slot.unset).toArray = ls at hl ⊢
  refine W.nameQ (fun Q hQ => ?_)
  refine W.nameR (fun R hR => ?_)
  have hRf : 2 ≤ R.frames := by rw [hR]; exact Nat.le_of_ble_eq_true rfl
  have hRl : 41 ≤ R.locals := by rw [hR]; exact Nat.le_of_ble_eq_true rfl
  have hRc : 0 ≤ R.cells := by rw [hR]; exact Nat.le_of_ble_eq_true rfl
  have hRs : 0 ≤ R.slots := by rw [hR]; exact Nat.le_of_ble_eq_true rfl
  have hl : lv_has ls 3 [(0, .ref oa)] := hl
  refine lv_iconst (v := 0) hx hb dX2_firstOpenDay_0 (by decide) ?_
  refine lv_aload_n hx hb dX2_firstOpenDay_1 rfl (lv_at hl 0 rfl) ?_
  obtain ⟨v1_0, v1_1, v1_2, v1_3, v1_4, v1_5, v1_6, v1_7, v1_8, v1_9, v1_10, v1_11, v1_12, v1_13, v1_14, v1_15, v1_16, v1_17, v1_18, v1_19, hM1, h1_3, h1_4, h1_5, h1_6, h1_7, h1_8, h1_9, h1_10, h1_11, h1_12, h1_13, h1_16, h1_17, h1_18, h1_19⟩ := hW.open_2 ia
  refine pg_get (D := D) (ci := 2) (v := .int v1_2) (C := RX2) (T := TX2) (N := 20) hx hb hg inG2 hown hK hP ia.1 hM1 rfl 2 (by decide) (hg _ wd_41) (fun _ h9 => h9) rfl dX2_firstOpenDay_2 ?_
  refine lv_iconst (v := 1) hx hb dX2_firstOpenDay_5 (by decide) ?_
  refine lv_iadd hx hb dX2_firstOpenDay_6 ?_
  refine lv_topi (fun f_2 ef_2 => ?_)
  refine va_mmax hx hb (by rw [hml]; exact hl.1.symm) hown (hg _ wd_99) (hg _ wd_100) (hg _ wd_12) (hg _ wd_101) (Nat.le_trans (Nat.le_of_ble_eq_true rfl) hRf) (Nat.le_trans (Nat.le_of_ble_eq_true rfl) hRl) (Nat.le_trans (Nat.le_of_ble_eq_true rfl) hRc) (Nat.le_trans (Nat.le_of_ble_eq_true rfl) hRs) dX2_firstOpenDay_7 ?_
  refine lv_topi (fun f_3 ef_3 => ?_)
  obtain ⟨j_4, hj_5, rfl⟩ := max0 ef_3
  refine lv_istore_n (lv' := [(1, .int (nI j_4)), (0, .ref oa)]) hx hb dX2_firstOpenDay_10 rfl hl (by decide) rfl (fun ls hl => ?_)
  have key_6 : ∀ (fu_8 : Nat) (v1w9 : Nat) (H_11 : Heap) (locs : List Loc) (ls : Array Slot), 1000 - v1w9 < fu_8 → v1w9 < 2147483648 → WOK cy K L M → va_P D vwCl ([] ++ va_pl L M) H_11 → va_D A ([] ++ va_pl L M) → va_S A s.heap H_11 locs → lv_has ls 3 [(1, .int (nI v1w9)), (0, .ref oa)] → W p l e R s m ([.ref oa] : List Value).toArray below meth c H_11 locs 0 0 Q (F0 m 11 ls []) := by
    intro fu_8
    induction fu_8 with
    | zero => intro v1w9 H_11 locs ls h; exact absurd h (Nat.not_lt_zero _)
    | succ fu_8 ih_7 =>
      intro v1w9 H_11 locs ls hfu hx_10 hW hP hD hS hl
      refine lv_iload_n hx hb dX2_firstOpenDay_11 rfl (lv_at hl 0 rfl) ?_
      refine lv_sipush (v := 999) hx hb dX2_firstOpenDay_12 (by decide) ?_
      refine lv_icmp_gt (tgt := 43) hx hb dX2_firstOpenDay_15 (by decide) (fun c_12 => ?_) (fun c_12 => ?_)
      · have hz := rfl (a := 0)
        have n_13 : 999 < v1w9 := (iLT (a := 999) (b := v1w9) (by omega) (by omega)).mp c_12
        refine lv_sipush (v := 1000) hx hb dX2_firstOpenDay_43 (by decide) ?_
        rw [hQ]
        exact W.iret (v := 1000) hx hb hr (fun t ht hW9 => ⟨⟨1000, (), rfl, trivial, ⟨by rw [ht]; exact hP, hD⟩⟩, hS.F ht⟩) hS.2.2 dX2_firstOpenDay_46
      · have hz := rfl (a := 0)
        have n_14 : ¬ (999 < v1w9) := fun q => c_12 ((iLT (a := 999) (b := v1w9) (by omega) (by omega)).mpr q)
        refine lv_aload_n hx hb dX2_firstOpenDay_18 rfl (lv_at hl 1 rfl) ?_
        refine lv_iload_n hx hb dX2_firstOpenDay_19 rfl (lv_at hl 0 rfl) ?_
        have hPc : va_P D vwCl ([] ++ va_pl L M) H_11 := hP
        have hDc : va_D A ([] ++ va_pl L M) := hD
        have hFc : ∀ q, va_A ([] ++ va_pl L M) H_11.size q → A q := pg_free hDc hS hA
        refine va_callq (va_runV (As := [.int (nI v1w9)]) (rest := []) ⟨hx, hb, hml, hown, hg⟩ (s_X2_leafOn l D cy K L M H_11.size oa (nI v1w9)  hW ia) (cwV 1 hg (gV wd_70 wd_71 wd_72 wd_57 wd_73) rfl rfl rfl (by decide +kernel) ⟨(Nat.le_trans (Nat.le_of_ble_eq_true rfl) hRf), (Nat.le_trans (Nat.le_of_ble_eq_true rfl) hRl)⟩) ⟨PG.blind, pg_recv hK hP ia.1 hM1 rfl, fun U hU hW => ⟨rfl, PG.at hPc hK hDc hN hU hW⟩⟩ rfl rfl hl.1 rfl (lv_room (Nat.le_of_ble_eq_true rfl)) dX2_firstOpenDay_20 ⟨(Nat.le_trans (Nat.le_of_ble_eq_true rfl) hRc), (Nat.le_trans (Nat.le_of_ble_eq_true rfl) hRs)⟩) hS (fun q _ h => hFc q h) hFc (fun r_16 M_17 t H_15 locs ht hvm hw hB hz1 hk1 hS => ?_)
        have hp_18 := hw
        obtain ⟨hP1, hD1⟩ := hB
        rw [ht] at hP1
        have hP : va_P D vwCl ([] ++ va_pl L M) H_15 := hP1
        have hD : va_D A ([] ++ va_pl L M) := hD1.mono hFc
        rcases r_16 with _ | b_19
        · have hz := rfl (a := 0)
          refine lv_astore_nN (lv' := [(2, .null), (1, .int (nI v1w9)), (0, .ref oa)]) hx hb dX2_firstOpenDay_23 rfl hl (by decide) rfl (fun ls hl => ?_)
          refine lv_aload_nN hx hb dX2_firstOpenDay_24 rfl (lv_at hl 0 rfl) ?_
          refine lv_ifnullN (tgt := 35) hx hb dX2_firstOpenDay_25 (by decide) ?_
          refine lv_iload_n hx hb dX2_firstOpenDay_35 rfl (lv_at hl 1 rfl) ?_
          rw [hQ]
          exact W.iret (v := (nI v1w9)) hx hb hr (fun t ht hW9 => ⟨⟨(nI v1w9), (), rfl, trivial, ⟨by rw [ht]; exact hP, hD⟩⟩, hS.F ht⟩) hS.2.2 dX2_firstOpenDay_36
        · have hb_20 := hp_18 b_19 rfl
          refine lv_astore_n (lv' := [(2, .ref b_19), (1, .int (nI v1w9)), (0, .ref oa)]) hx hb dX2_firstOpenDay_23 rfl hl (by decide) rfl (fun ls hl => ?_)
          refine lv_aload_n hx hb dX2_firstOpenDay_24 rfl (lv_at hl 0 rfl) ?_
          refine lv_ifnull hx hb dX2_firstOpenDay_25 ?_
          refine lv_aload_n hx hb dX2_firstOpenDay_28 rfl (lv_at hl 0 rfl) ?_
          obtain ⟨n21, v21_0, v21_1, v21_2, hM21, h21_1, h21_2, y21_0⟩ := hW.open_3 hb_20
          have hPc : va_P D vwCl ([] ++ va_pl L M) H_15 := hP
          have hDc : va_D A ([] ++ va_pl L M) := hD
          have hFc : ∀ q, va_A ([] ++ va_pl L M) H_15.size q → A q := pg_free hDc hS hA
          refine va_calli (va_runV (As := []) (rest := []) ⟨hx, hb, hml, hown, hg⟩ (s_X3_lacksEntries l D cy K L M H_15.size b_19 n21 v21_0 v21_1 v21_2 hW hb_20 hM21 h21_1 h21_2 y21_0) (cwV 0 hg (gV wd_320 wd_37 wd_38 wd_39 wd_40) rfl rfl rfl (by decide +kernel) ⟨(Nat.le_trans (Nat.le_of_ble_eq_true rfl) hRf), (Nat.le_trans (Nat.le_of_ble_eq_true rfl) hRl)⟩) ⟨PG.blind, pg_recv hK hP hb_20.1 hM21 rfl, fun U hU hW => ⟨rfl, PG.at hPc hK hDc hN hU hW⟩⟩ rfl rfl hl.1 rfl (lv_room (Nat.le_of_ble_eq_true rfl)) dX2_firstOpenDay_29 ⟨(Nat.le_trans (Nat.le_of_ble_eq_true rfl) hRc), (Nat.le_trans (Nat.le_of_ble_eq_true rfl) hRs)⟩) hS (fun q _ h => hFc q h) hFc (fun r_23 M_24 t H_22 locs ht hvm hw hB hz1 hk1 hS => ?_)
          have hp_25 := hw
          obtain ⟨hP1, hD1⟩ := hB
          rw [ht] at hP1
          have hP : va_P D vwCl ([] ++ va_pl L M) H_22 := hP1
          have hD : va_D A ([] ++ va_pl L M) := hD1.mono hFc
          rcases hp_25 with ⟨rfl, c_26⟩ | rfl
          · have hz := rfl (a := 0)
            refine lv_if_eq (tgt := 37) hx hb dX2_firstOpenDay_32 (by decide) (fun c_27 => absurd c_27 (by decide)) (fun _ => ?_)
            refine lv_iload_n hx hb dX2_firstOpenDay_35 rfl (lv_at hl 1 rfl) ?_
            rw [hQ]
            exact W.iret (v := (nI v1w9)) hx hb hr (fun t ht hW9 => ⟨⟨(nI v1w9), (), rfl, trivial, ⟨by rw [ht]; exact hP, hD⟩⟩, hS.F ht⟩) hS.2.2 dX2_firstOpenDay_36
          · have hz := rfl (a := 0)
            refine lv_if_eq (tgt := 37) hx hb dX2_firstOpenDay_32 (by decide) (fun _ => ?_) (fun c_28 => absurd c_28 (by decide))
            refine lv_iinc (v := (nI (v1w9 + 1))) (lv' := [(1, .int (nI (v1w9 + 1))), (2, .ref b_19), (0, .ref oa)]) hx hb dX2_firstOpenDay_37 hl (k := 1) rfl (nI_1 v1w9) (by decide) rfl (fun ls hl => ?_)
            refine lv_goto (tgt := 11) hx hb dX2_firstOpenDay_40 (by decide) ?_
            exact ih_7 (v1w9 + 1) H_22 _ _ (by omega) (by omega) hW hP hD hS (lv_sub hl [0, 2] rfl)
  exact key_6 (1000 - j_4 + 1) j_4 s.heap _ _ (by omega) (by omega) hW hP hD hS (lv_sub hl [0, 1] rfl)
set_option maxHeartbeats 4000000 in
set_option maxRecDepth 100000 in
theorem s_X2_factOf (l : Launch) (D : va_G) (cy : Nat → ClassId) (K : Kp) (L : List Nat) (M : Hp) (sz : Nat) (oa : Nat) (k1 : Int32) (hW : WOK cy K L M) (ia : isk K L oa 2 0) : Met l yX2_factOf (wsM yX2_factOf cX2_factOf 2 (some .int)) ({ frames := 3, cells := 0, slots := 0, locals := 63 }) (va_Pc [.ref oa, .int k1] (PG D cy [] L M sz)) (va_Qi (fun (r : Int32) (_ : Unit) => True) (fun _ t => PQ D [] L M (va_A ([] ++ va_pl L M) sz) t) (va_A ([] ++ va_pl L M) sz)) 0 0 (va_A ([] ++ va_pl L M) sz) := by
  refine Met.ofW (cc := cX2_factOf) (maxL := 2) (ret := (some .int)) (by decide) rfl ?_
  intro p e s m args below meth c s₁ B hml hv
  obtain ⟨rfl, hsz, hP, hK, hD0, hN⟩ := hv
  have hx := B.exec
  have hb := B.bytes
  have hr := B.returns
  have hts := atoms_spec (ws := (wsM yX2_factOf cX2_factOf 2 (some .int))) B.pre
  have hg : ∀ w ∈ lw_good, w.before _ s = true := fun w h => hts w (List.mem_cons_of_mem _ h)
  have hown : s.vm.findClass RX2 = some m.cls := findClass_of_methodNamed B.named
  have hlocks := B.notSynchronized
  subst hsz
  have hD := hD0.self (sz := s.heap.size)
  generalize hAe : va_A ([] ++ va_pl L M) s.heap.size = A at hD ⊢
  have hA : ∀ q : Nat, s.heap.size ≤ q → A q := fun q h => by rw [← hAe]; exact Or.inr h
  have hS : va_S A s.heap s.heap [] := va_S.rf
  have hl := lv_entry ([.ref oa, .int k1]) (n := 2) (Nat.le_of_ble_eq_true rfl)
  rw [lg_entry_eq]
  generalize (lg_sl ([.ref oa, .int k1]) ++ List.replicate (2 - (lg_sl ([.ref oa, .int k1])).length) Slot.unset).toArray = ls at hl ⊢
  refine W.nameQ (fun Q hQ => ?_)
  refine W.nameR (fun R hR => ?_)
  have hRf : 3 ≤ R.frames := by rw [hR]; exact Nat.le_of_ble_eq_true rfl
  have hRl : 63 ≤ R.locals := by rw [hR]; exact Nat.le_of_ble_eq_true rfl
  have hRc : 0 ≤ R.cells := by rw [hR]; exact Nat.le_of_ble_eq_true rfl
  have hRs : 0 ≤ R.slots := by rw [hR]; exact Nat.le_of_ble_eq_true rfl
  have hl : lv_has ls 2 [(0, .ref oa), (1, .int k1)] := hl
  refine lv_iload_n hx hb dX2_factOf_0 rfl (lv_at hl 1 rfl) ?_
  by_cases hout : (k1 : Int32).toInt < 0 ∨ 9 < (k1 : Int32).toInt
  · refine lv_tableOut (tgt := 115) hx hb dX2_factOf_1 hout (by decide) ?_
    refine lv_iconst (v := (-1)) hx hb dX2_factOf_115 (by decide) ?_
    rw [hQ]
    exact W.iret (v := (-1)) hx hb hr (fun t ht hW9 => ⟨⟨(-1), (), rfl, trivial, ⟨by rw [ht]; exact hP, hD⟩⟩, hS.F ht⟩) hS.2.2 dX2_factOf_116
  · obtain ⟨j_1, hj, hj2⟩ : ∃ j : Nat, j ≤ 9 ∧ (k1 : Int32).toInt = (j : Int) := ⟨(k1 : Int32).toInt.toNat, by omega, by omega⟩
    rcases (show j_1 = 0 ∨ j_1 = 1 ∨ j_1 = 2 ∨ j_1 = 3 ∨ j_1 = 4 ∨ j_1 = 5 ∨ j_1 = 6 ∨ j_1 = 7 ∨ j_1 = 8 ∨ j_1 = 9 by omega) with rfl | rfl | rfl | rfl | rfl | rfl | rfl | rfl | rfl | rfl
    · refine lv_tableIn (tgt := 56) hx hb dX2_factOf_1 (by omega) (by omega) (by rw [hj2]; rfl) (by decide) ?_
      refine lv_aload_n hx hb dX2_factOf_56 rfl (lv_at hl 0 rfl) ?_
      obtain ⟨v2_0, v2_1, v2_2, v2_3, v2_4, v2_5, v2_6, v2_7, v2_8, v2_9, v2_10, v2_11, v2_12, v2_13, v2_14, v2_15, v2_16, v2_17, v2_18, v2_19, hM2, h2_3, h2_4, h2_5, h2_6, h2_7, h2_8, h2_9, h2_10, h2_11, h2_12, h2_13, h2_16, h2_17, h2_18, h2_19⟩ := hW.open_2 ia
      refine pg_get (D := D) (ci := 2) (v := .int v2_1) (C := RX2) (T := TX2) (N := 20) hx hb hg inG2 hown hK hP ia.1 hM2 rfl 1 (by decide) (hg _ wd_83) (fun _ h9 => h9) rfl dX2_factOf_57 ?_
      rw [hQ]
      exact W.iret (v := v2_1) hx hb hr (fun t ht hW9 => ⟨⟨v2_1, (), rfl, trivial, ⟨by rw [ht]; exact hP, hD⟩⟩, hS.F ht⟩) hS.2.2 dX2_factOf_60
    · refine lv_tableIn (tgt := 61) hx hb dX2_factOf_1 (by omega) (by omega) (by rw [hj2]; rfl) (by decide) ?_
      refine lv_aload_n hx hb dX2_factOf_61 rfl (lv_at hl 0 rfl) ?_
      obtain ⟨v3_0, v3_1, v3_2, v3_3, v3_4, v3_5, v3_6, v3_7, v3_8, v3_9, v3_10, v3_11, v3_12, v3_13, v3_14, v3_15, v3_16, v3_17, v3_18, v3_19, hM3, h3_3, h3_4, h3_5, h3_6, h3_7, h3_8, h3_9, h3_10, h3_11, h3_12, h3_13, h3_16, h3_17, h3_18, h3_19⟩ := hW.open_2 ia
      refine pg_get (D := D) (ci := 2) (v := .int v3_2) (C := RX2) (T := TX2) (N := 20) hx hb hg inG2 hown hK hP ia.1 hM3 rfl 2 (by decide) (hg _ wd_41) (fun _ h9 => h9) rfl dX2_factOf_62 ?_
      rw [hQ]
      exact W.iret (v := v3_2) hx hb hr (fun t ht hW9 => ⟨⟨v3_2, (), rfl, trivial, ⟨by rw [ht]; exact hP, hD⟩⟩, hS.F ht⟩) hS.2.2 dX2_factOf_65
    · refine lv_tableIn (tgt := 66) hx hb dX2_factOf_1 (by omega) (by omega) (by rw [hj2]; rfl) (by decide) ?_
      refine lv_aload_n hx hb dX2_factOf_66 rfl (lv_at hl 0 rfl) ?_
      obtain ⟨v4_0, v4_1, v4_2, v4_3, v4_4, v4_5, v4_6, v4_7, v4_8, v4_9, v4_10, v4_11, v4_12, v4_13, v4_14, v4_15, v4_16, v4_17, v4_18, v4_19, hM4, h4_3, h4_4, h4_5, h4_6, h4_7, h4_8, h4_9, h4_10, h4_11, h4_12, h4_13, h4_16, h4_17, h4_18, h4_19⟩ := hW.open_2 ia
      refine pg_get (D := D) (ci := 2) (v := .int (nI v4_4)) (C := RX2) (T := TX2) (N := 20) hx hb hg inG2 hown hK hP ia.1 hM4 rfl 4 (by decide) (hg _ wd_82) (fun _ h9 => h9) rfl dX2_factOf_67 ?_
      rw [hQ]
      exact W.iret (v := (nI v4_4)) hx hb hr (fun t ht hW9 => ⟨⟨(nI v4_4), (), rfl, trivial, ⟨by rw [ht]; exact hP, hD⟩⟩, hS.F ht⟩) hS.2.2 dX2_factOf_70
    · refine lv_tableIn (tgt := 71) hx hb dX2_factOf_1 (by omega) (by omega) (by rw [hj2]; rfl) (by decide) ?_
      refine lv_aload_n hx hb dX2_factOf_71 rfl (lv_at hl 0 rfl) ?_
      obtain ⟨v5_0, v5_1, v5_2, v5_3, v5_4, v5_5, v5_6, v5_7, v5_8, v5_9, v5_10, v5_11, v5_12, v5_13, v5_14, v5_15, v5_16, v5_17, v5_18, v5_19, hM5, h5_3, h5_4, h5_5, h5_6, h5_7, h5_8, h5_9, h5_10, h5_11, h5_12, h5_13, h5_16, h5_17, h5_18, h5_19⟩ := hW.open_2 ia
      refine pg_get (D := D) (ci := 2) (v := .int (nI v5_5)) (C := RX2) (T := TX2) (N := 20) hx hb hg inG2 hown hK hP ia.1 hM5 rfl 5 (by decide) (hg _ wd_85) (fun _ h9 => h9) rfl dX2_factOf_72 ?_
      rw [hQ]
      exact W.iret (v := (nI v5_5)) hx hb hr (fun t ht hW9 => ⟨⟨(nI v5_5), (), rfl, trivial, ⟨by rw [ht]; exact hP, hD⟩⟩, hS.F ht⟩) hS.2.2 dX2_factOf_75
    · refine lv_tableIn (tgt := 76) hx hb dX2_factOf_1 (by omega) (by omega) (by rw [hj2]; rfl) (by decide) ?_
      refine lv_aload_n hx hb dX2_factOf_76 rfl (lv_at hl 0 rfl) ?_
      obtain ⟨v6_0, v6_1, v6_2, v6_3, v6_4, v6_5, v6_6, v6_7, v6_8, v6_9, v6_10, v6_11, v6_12, v6_13, v6_14, v6_15, v6_16, v6_17, v6_18, v6_19, hM6, h6_3, h6_4, h6_5, h6_6, h6_7, h6_8, h6_9, h6_10, h6_11, h6_12, h6_13, h6_16, h6_17, h6_18, h6_19⟩ := hW.open_2 ia
      refine pg_get (D := D) (ci := 2) (v := .int (nI v6_9)) (C := RX2) (T := TX2) (N := 20) hx hb hg inG2 hown hK hP ia.1 hM6 rfl 9 (by decide) (hg _ wd_44) (fun _ h9 => h9) rfl dX2_factOf_77 ?_
      rw [hQ]
      exact W.iret (v := (nI v6_9)) hx hb hr (fun t ht hW9 => ⟨⟨(nI v6_9), (), rfl, trivial, ⟨by rw [ht]; exact hP, hD⟩⟩, hS.F ht⟩) hS.2.2 dX2_factOf_80
    · refine lv_tableIn (tgt := 81) hx hb dX2_factOf_1 (by omega) (by omega) (by rw [hj2]; rfl) (by decide) ?_
      refine lv_aload_n hx hb dX2_factOf_81 rfl (lv_at hl 0 rfl) ?_
      obtain ⟨v7_0, v7_1, v7_2, v7_3, v7_4, v7_5, v7_6, v7_7, v7_8, v7_9, v7_10, v7_11, v7_12, v7_13, v7_14, v7_15, v7_16, v7_17, v7_18, v7_19, hM7, h7_3, h7_4, h7_5, h7_6, h7_7, h7_8, h7_9, h7_10, h7_11, h7_12, h7_13, h7_16, h7_17, h7_18, h7_19⟩ := hW.open_2 ia
      refine pg_get (D := D) (ci := 2) (v := .int (nI v7_11)) (C := RX2) (T := TX2) (N := 20) hx hb hg inG2 hown hK hP ia.1 hM7 rfl 11 (by decide) (hg _ wd_66) (fun _ h9 => h9) rfl dX2_factOf_82 ?_
      rw [hQ]
      exact W.iret (v := (nI v7_11)) hx hb hr (fun t ht hW9 => ⟨⟨(nI v7_11), (), rfl, trivial, ⟨by rw [ht]; exact hP, hD⟩⟩, hS.F ht⟩) hS.2.2 dX2_factOf_85
    · refine lv_tableIn (tgt := 86) hx hb dX2_factOf_1 (by omega) (by omega) (by rw [hj2]; rfl) (by decide) ?_
      refine lv_aload_n hx hb dX2_factOf_86 rfl (lv_at hl 0 rfl) ?_
      obtain ⟨v8_0, v8_1, v8_2, v8_3, v8_4, v8_5, v8_6, v8_7, v8_8, v8_9, v8_10, v8_11, v8_12, v8_13, v8_14, v8_15, v8_16, v8_17, v8_18, v8_19, hM8, h8_3, h8_4, h8_5, h8_6, h8_7, h8_8, h8_9, h8_10, h8_11, h8_12, h8_13, h8_16, h8_17, h8_18, h8_19⟩ := hW.open_2 ia
      refine pg_get (D := D) (ci := 2) (v := .ref v8_16) (C := RX2) (T := TX2) (N := 20) hx hb hg inG2 hown hK hP ia.1 hM8 rfl 16 (by decide) (hg _ wd_321) (fun _ h9 => h9) rfl dX2_factOf_87 ?_
      obtain ⟨n9, v9_0, v9_1, v9_2, v9_3, hM9, h9_0, h9_1, h9_2, h9_3, y9_0⟩ := hW.open_1 h8_16
      refine pg_get (D := D) (ci := 1) (v := .int (nI v9_3)) (C := RX1) (T := TX1) (N := 4) hx hb hg inG1 hown hK hP h8_16.1 hM9 rfl 3 (by decide) (hg _ wd_322) (fun _ h9 => h9) rfl dX2_factOf_90 ?_
      rw [hQ]
      exact W.iret (v := (nI v9_3)) hx hb hr (fun t ht hW9 => ⟨⟨(nI v9_3), (), rfl, trivial, ⟨by rw [ht]; exact hP, hD⟩⟩, hS.F ht⟩) hS.2.2 dX2_factOf_93
    · refine lv_tableIn (tgt := 94) hx hb dX2_factOf_1 (by omega) (by omega) (by rw [hj2]; rfl) (by decide) ?_
      refine lv_aload_n hx hb dX2_factOf_94 rfl (lv_at hl 0 rfl) ?_
      obtain ⟨v10_0, v10_1, v10_2, v10_3, v10_4, v10_5, v10_6, v10_7, v10_8, v10_9, v10_10, v10_11, v10_12, v10_13, v10_14, v10_15, v10_16, v10_17, v10_18, v10_19, hM10, h10_3, h10_4, h10_5, h10_6, h10_7, h10_8, h10_9, h10_10, h10_11, h10_12, h10_13, h10_16, h10_17, h10_18, h10_19⟩ := hW.open_2 ia
      refine pg_get (D := D) (ci := 2) (v := .ref v10_17) (C := RX2) (T := TX2) (N := 20) hx hb hg inG2 hown hK hP ia.1 hM10 rfl 17 (by decide) (hg _ wd_323) (fun _ h9 => h9) rfl dX2_factOf_95 ?_
      obtain ⟨n11, v11_0, v11_1, v11_2, v11_3, hM11, h11_0, h11_1, h11_2, h11_3, y11_0⟩ := hW.open_1 h10_17
      refine pg_get (D := D) (ci := 1) (v := .int (nI v11_3)) (C := RX1) (T := TX1) (N := 4) hx hb hg inG1 hown hK hP h10_17.1 hM11 rfl 3 (by decide) (hg _ wd_322) (fun _ h9 => h9) rfl dX2_factOf_98 ?_
      rw [hQ]
      exact W.iret (v := (nI v11_3)) hx hb hr (fun t ht hW9 => ⟨⟨(nI v11_3), (), rfl, trivial, ⟨by rw [ht]; exact hP, hD⟩⟩, hS.F ht⟩) hS.2.2 dX2_factOf_101
    · refine lv_tableIn (tgt := 102) hx hb dX2_factOf_1 (by omega) (by omega) (by rw [hj2]; rfl) (by decide) ?_
      refine lv_aload_n hx hb dX2_factOf_102 rfl (lv_at hl 0 rfl) ?_
      obtain ⟨v12_0, v12_1, v12_2, v12_3, v12_4, v12_5, v12_6, v12_7, v12_8, v12_9, v12_10, v12_11, v12_12, v12_13, v12_14, v12_15, v12_16, v12_17, v12_18, v12_19, hM12, h12_3, h12_4, h12_5, h12_6, h12_7, h12_8, h12_9, h12_10, h12_11, h12_12, h12_13, h12_16, h12_17, h12_18, h12_19⟩ := hW.open_2 ia
      refine pg_get (D := D) (ci := 2) (v := .ref v12_19) (C := RX2) (T := TX2) (N := 20) hx hb hg inG2 hown hK hP ia.1 hM12 rfl 19 (by decide) (hg _ wd_324) (fun _ h9 => h9) rfl dX2_factOf_103 ?_
      obtain ⟨v13_0, v13_1, v13_2, v13_3, v13_4, hM13, h13_0, h13_1, h13_2, h13_3⟩ := hW.open_0 h12_19
      refine pg_get (D := D) (ci := 0) (v := .int (nI v13_3)) (C := RX0) (T := TX0) (N := 5) hx hb hg inG0 hown hK hP h12_19.1 hM13 rfl 3 (by decide) (hg _ wd_325) (fun _ h9 => h9) rfl dX2_factOf_106 ?_
      rw [hQ]
      exact W.iret (v := (nI v13_3)) hx hb hr (fun t ht hW9 => ⟨⟨(nI v13_3), (), rfl, trivial, ⟨by rw [ht]; exact hP, hD⟩⟩, hS.F ht⟩) hS.2.2 dX2_factOf_109
    · refine lv_tableIn (tgt := 110) hx hb dX2_factOf_1 (by omega) (by omega) (by rw [hj2]; rfl) (by decide) ?_
      refine lv_aload_n hx hb dX2_factOf_110 rfl (lv_at hl 0 rfl) ?_
      obtain ⟨v14_0, v14_1, v14_2, v14_3, v14_4, v14_5, v14_6, v14_7, v14_8, v14_9, v14_10, v14_11, v14_12, v14_13, v14_14, v14_15, v14_16, v14_17, v14_18, v14_19, hM14, h14_3, h14_4, h14_5, h14_6, h14_7, h14_8, h14_9, h14_10, h14_11, h14_12, h14_13, h14_16, h14_17, h14_18, h14_19⟩ := hW.open_2 ia
      have hPc : va_P D vwCl ([] ++ va_pl L M) s.heap := hP
      have hDc : va_D A ([] ++ va_pl L M) := hD
      have hFc : ∀ q, va_A ([] ++ va_pl L M) s.heap.size q → A q := pg_free hDc hS hA
      refine va_calli (va_runV (As := []) (rest := []) ⟨hx, hb, hml, hown, hg⟩ (s_X2_firstOpenDay l D cy K L M s.heap.size oa  hW ia) (cwV 0 hg (gV wd_326 wd_327 wd_328 wd_57 wd_329) rfl rfl rfl (by decide +kernel) ⟨(Nat.le_trans (Nat.le_of_ble_eq_true rfl) hRf), (Nat.le_trans (Nat.le_of_ble_eq_true rfl) hRl)⟩) ⟨PG.blind, pg_recv hK hP ia.1 hM14 rfl, fun U hU hW => ⟨rfl, PG.at hPc hK hDc hN hU hW⟩⟩ rfl rfl hl.1 rfl (lv_room (Nat.le_of_ble_eq_true rfl)) dX2_factOf_111 ⟨(Nat.le_trans (Nat.le_of_ble_eq_true rfl) hRc), (Nat.le_trans (Nat.le_of_ble_eq_true rfl) hRs)⟩) hS (fun q _ h => hFc q h) hFc (fun r_16 M_17 t H_15 locs ht hvm hw hB hz1 hk1 hS => ?_)
      have hp_18 := hw
      obtain ⟨hP1, hD1⟩ := hB
      rw [ht] at hP1
      have hP : va_P D vwCl ([] ++ va_pl L M) H_15 := hP1
      have hD : va_D A ([] ++ va_pl L M) := hD1.mono hFc
      rw [hQ]
      exact W.iret (v := r_16) hx hb hr (fun t ht hW9 => ⟨⟨r_16, (), rfl, trivial, ⟨by rw [ht]; exact hP, hD⟩⟩, hS.F ht⟩) hS.2.2 dX2_factOf_114
