theorem dX2_firstOpenDay_0 : decode cX2_firstOpenDay 0 = .ok (.iconst 0, 1) := by decide +kernel
theorem dX2_firstOpenDay_1 : decode cX2_firstOpenDay 1 = .ok (.aload_n 0, 1) := by decide +kernel
theorem dX2_firstOpenDay_2 : decode cX2_firstOpenDay 2 = .ok (.getfield 69, 3) := by decide +kernel
theorem dX2_firstOpenDay_5 : decode cX2_firstOpenDay 5 = .ok (.iconst 1, 1) := by decide +kernel
theorem dX2_firstOpenDay_6 : decode cX2_firstOpenDay 6 = .ok (.iadd, 1) := by decide +kernel
theorem dX2_firstOpenDay_7 : decode cX2_firstOpenDay 7 = .ok (.invokestatic 146, 3) := by decide +kernel
theorem dX2_firstOpenDay_10 : decode cX2_firstOpenDay 10 = .ok (.istore_n 1, 1) := by decide +kernel
theorem dX2_firstOpenDay_11 : decode cX2_firstOpenDay 11 = .ok (.iload_n 1, 1) := by decide +kernel
theorem dX2_firstOpenDay_12 : decode cX2_firstOpenDay 12 = .ok (.sipush 999, 3) := by decide +kernel
theorem dX2_firstOpenDay_15 : decode cX2_firstOpenDay 15 = .ok (.if_icmp .gt 28, 3) := by decide +kernel
theorem dX2_firstOpenDay_18 : decode cX2_firstOpenDay 18 = .ok (.aload_n 0, 1) := by decide +kernel
theorem dX2_firstOpenDay_19 : decode cX2_firstOpenDay 19 = .ok (.iload_n 1, 1) := by decide +kernel
theorem dX2_firstOpenDay_20 : decode cX2_firstOpenDay 20 = .ok (.invokevirtual 135, 3) := by decide +kernel
theorem dX2_firstOpenDay_23 : decode cX2_firstOpenDay 23 = .ok (.astore_n 2, 1) := by decide +kernel
theorem dX2_firstOpenDay_24 : decode cX2_firstOpenDay 24 = .ok (.aload_n 2, 1) := by decide +kernel
theorem dX2_firstOpenDay_25 : decode cX2_firstOpenDay 25 = .ok (.ifnull 10, 3) := by decide +kernel
theorem dX2_firstOpenDay_28 : decode cX2_firstOpenDay 28 = .ok (.aload_n 2, 1) := by decide +kernel
theorem dX2_firstOpenDay_29 : decode cX2_firstOpenDay 29 = .ok (.invokevirtual 151, 3) := by decide +kernel
theorem dX2_firstOpenDay_32 : decode cX2_firstOpenDay 32 = .ok (.ifCond .eq 5, 3) := by decide +kernel
theorem dX2_firstOpenDay_35 : decode cX2_firstOpenDay 35 = .ok (.iload_n 1, 1) := by decide +kernel
theorem dX2_firstOpenDay_36 : decode cX2_firstOpenDay 36 = .ok (.ireturn, 1) := by decide +kernel
theorem dX2_firstOpenDay_37 : decode cX2_firstOpenDay 37 = .ok (.iinc 1 1, 3) := by decide +kernel
theorem dX2_firstOpenDay_40 : decode cX2_firstOpenDay 40 = .ok (.goto (-29), 3) := by decide +kernel
theorem dX2_firstOpenDay_43 : decode cX2_firstOpenDay 43 = .ok (.sipush 1000, 3) := by decide +kernel
theorem dX2_firstOpenDay_46 : decode cX2_firstOpenDay 46 = .ok (.ireturn, 1) := by decide +kernel
theorem dX2_factOf_0 : decode cX2_factOf 0 = .ok (.iload_n 1, 1) := by decide +kernel
theorem dX2_factOf_1 : decode cX2_factOf 1 = .ok (.tableswitch 114 0 9 #[55, 60, 65, 70, 75, 80, 85, 93, 101, 109], 55) := by decide +kernel
theorem dX2_factOf_56 : decode cX2_factOf 56 = .ok (.aload_n 0, 1) := by decide +kernel
theorem dX2_factOf_57 : decode cX2_factOf 57 = .ok (.getfield 66, 3) := by decide +kernel
theorem dX2_factOf_60 : decode cX2_factOf 60 = .ok (.ireturn, 1) := by decide +kernel
theorem dX2_factOf_61 : decode cX2_factOf 61 = .ok (.aload_n 0, 1) := by decide +kernel
theorem dX2_factOf_62 : decode cX2_factOf 62 = .ok (.getfield 69, 3) := by decide +kernel
theorem dX2_factOf_65 : decode cX2_factOf 65 = .ok (.ireturn, 1) := by decide +kernel
theorem dX2_factOf_66 : decode cX2_factOf 66 = .ok (.aload_n 0, 1) := by decide +kernel
theorem dX2_factOf_67 : decode cX2_factOf 67 = .ok (.getfield 154, 3) := by decide +kernel
theorem dX2_factOf_70 : decode cX2_factOf 70 = .ok (.ireturn, 1) := by decide +kernel
theorem dX2_factOf_71 : decode cX2_factOf 71 = .ok (.aload_n 0, 1) := by decide +kernel
theorem dX2_factOf_72 : decode cX2_factOf 72 = .ok (.getfield 157, 3) := by decide +kernel
theorem dX2_factOf_75 : decode cX2_factOf 75 = .ok (.ireturn, 1) := by decide +kernel
theorem dX2_factOf_76 : decode cX2_factOf 76 = .ok (.aload_n 0, 1) := by decide +kernel
theorem dX2_factOf_77 : decode cX2_factOf 77 = .ok (.getfield 85, 3) := by decide +kernel
theorem dX2_factOf_80 : decode cX2_factOf 80 = .ok (.ireturn, 1) := by decide +kernel
theorem dX2_factOf_81 : decode cX2_factOf 81 = .ok (.aload_n 0, 1) := by decide +kernel
theorem dX2_factOf_82 : decode cX2_factOf 82 = .ok (.getfield 121, 3) := by decide +kernel
theorem dX2_factOf_85 : decode cX2_factOf 85 = .ok (.ireturn, 1) := by decide +kernel
theorem dX2_factOf_86 : decode cX2_factOf 86 = .ok (.aload_n 0, 1) := by decide +kernel
theorem dX2_factOf_87 : decode cX2_factOf 87 = .ok (.getfield 48, 3) := by decide +kernel
theorem dX2_factOf_90 : decode cX2_factOf 90 = .ok (.getfield 178, 3) := by decide +kernel
theorem dX2_factOf_93 : decode cX2_factOf 93 = .ok (.ireturn, 1) := by decide +kernel
theorem dX2_factOf_94 : decode cX2_factOf 94 = .ok (.aload_n 0, 1) := by decide +kernel
theorem dX2_factOf_95 : decode cX2_factOf 95 = .ok (.getfield 52, 3) := by decide +kernel
theorem dX2_factOf_98 : decode cX2_factOf 98 = .ok (.getfield 178, 3) := by decide +kernel
theorem dX2_factOf_101 : decode cX2_factOf 101 = .ok (.ireturn, 1) := by decide +kernel
theorem dX2_factOf_102 : decode cX2_factOf 102 = .ok (.aload_n 0, 1) := by decide +kernel
theorem dX2_factOf_103 : decode cX2_factOf 103 = .ok (.getfield 77, 3) := by decide +kernel
theorem dX2_factOf_106 : decode cX2_factOf 106 = .ok (.getfield 181, 3) := by decide +kernel
theorem dX2_factOf_109 : decode cX2_factOf 109 = .ok (.ireturn, 1) := by decide +kernel
theorem dX2_factOf_110 : decode cX2_factOf 110 = .ok (.aload_n 0, 1) := by decide +kernel
theorem dX2_factOf_111 : decode cX2_factOf 111 = .ok (.invokevirtual 182, 3) := by decide +kernel
theorem dX2_factOf_114 : decode cX2_factOf 114 = .ok (.ireturn, 1) := by decide +kernel
theorem dX2_factOf_115 : decode cX2_factOf 115 = .ok (.iconst (-1), 1) := by decide +kernel
theorem dX2_factOf_116 : decode cX2_factOf 116 = .ok (.ireturn, 1) := by decide +kernel
theorem dX5_forget_0 : decode cX5_forget 0 = .ok (.aload_n 0, 1) := by decide +kernel
theorem dX5_forget_1 : decode cX5_forget 1 = .ok (.iconst 0, 1) := by decide +kernel
theorem dX5_forget_2 : decode cX5_forget 2 = .ok (.putfield 18, 3) := by decide +kernel
theorem dX5_forget_5 : decode cX5_forget 5 = .ok (.return_, 1) := by decide +kernel
theorem dX5_houseAtStep_0 : decode cX5_houseAtStep 0 = .ok (.iload_n 1, 1) := by decide +kernel
theorem dX5_houseAtStep_1 : decode cX5_houseAtStep 1 = .ok (.ifCond .lt 26, 3) := by decide +kernel
theorem dX5_houseAtStep_4 : decode cX5_houseAtStep 4 = .ok (.iload_n 1, 1) := by decide +kernel
theorem dX5_houseAtStep_5 : decode cX5_houseAtStep 5 = .ok (.aload_n 0, 1) := by decide +kernel
theorem dX5_houseAtStep_6 : decode cX5_houseAtStep 6 = .ok (.getfield 18, 3) := by decide +kernel
theorem dX5_houseAtStep_9 : decode cX5_houseAtStep 9 = .ok (.if_icmp .ge 18, 3) := by decide +kernel
theorem dX5_houseAtStep_12 : decode cX5_houseAtStep 12 = .ok (.iload_n 1, 1) := by decide +kernel
theorem dX5_houseAtStep_13 : decode cX5_houseAtStep 13 = .ok (.bipush 8, 2) := by decide +kernel
theorem dX5_houseAtStep_15 : decode cX5_houseAtStep 15 = .ok (.if_icmp .ge 12, 3) := by decide +kernel
theorem dX5_houseAtStep_18 : decode cX5_houseAtStep 18 = .ok (.aload_n 0, 1) := by decide +kernel
theorem dX5_houseAtStep_19 : decode cX5_houseAtStep 19 = .ok (.getfield 15, 3) := by decide +kernel
theorem dX5_houseAtStep_22 : decode cX5_houseAtStep 22 = .ok (.iload_n 1, 1) := by decide +kernel
theorem dX5_houseAtStep_23 : decode cX5_houseAtStep 23 = .ok (.iaload, 1) := by decide +kernel
theorem dX5_houseAtStep_24 : decode cX5_houseAtStep 24 = .ok (.goto 4, 3) := by decide +kernel
theorem dX5_houseAtStep_27 : decode cX5_houseAtStep 27 = .ok (.iconst (-1), 1) := by decide +kernel
theorem dX5_houseAtStep_28 : decode cX5_houseAtStep 28 = .ok (.ireturn, 1) := by decide +kernel
theorem dX5_trace_0 : decode cX5_trace 0 = .ok (.iload_n 3, 1) := by decide +kernel
theorem dX5_trace_1 : decode cX5_trace 1 = .ok (.ifCond .lt 21, 3) := by decide +kernel
theorem dX5_trace_4 : decode cX5_trace 4 = .ok (.iload_n 3, 1) := by decide +kernel
theorem dX5_trace_5 : decode cX5_trace 5 = .ok (.bipush 8, 2) := by decide +kernel
theorem dX5_trace_7 : decode cX5_trace 7 = .ok (.if_icmp .ge 15, 3) := by decide +kernel
theorem dX5_trace_10 : decode cX5_trace 10 = .ok (.iload 4, 2) := by decide +kernel
theorem dX5_trace_12 : decode cX5_trace 12 = .ok (.ifCond .lt 10, 3) := by decide +kernel
theorem dX5_trace_15 : decode cX5_trace 15 = .ok (.iload 4, 2) := by decide +kernel
theorem dX5_trace_17 : decode cX5_trace 17 = .ok (.bipush 8, 2) := by decide +kernel
theorem dX5_trace_19 : decode cX5_trace 19 = .ok (.if_icmp .lt 5, 3) := by decide +kernel
theorem dX5_trace_22 : decode cX5_trace 22 = .ok (.iconst 0, 1) := by decide +kernel
theorem dX5_trace_23 : decode cX5_trace 23 = .ok (.ireturn, 1) := by decide +kernel
theorem dX5_trace_24 : decode cX5_trace 24 = .ok (.aload_n 0, 1) := by decide +kernel
theorem dX5_trace_25 : decode cX5_trace 25 = .ok (.aload_n 1, 1) := by decide +kernel
theorem dX5_trace_26 : decode cX5_trace 26 = .ok (.iload_n 2, 1) := by decide +kernel
theorem dX5_trace_27 : decode cX5_trace 27 = .ok (.iload 4, 2) := by decide +kernel
theorem dX5_trace_29 : decode cX5_trace 29 = .ok (.invokevirtual 22, 3) := by decide +kernel
theorem dX5_trace_32 : decode cX5_trace 32 = .ok (.aload_n 0, 1) := by decide +kernel
theorem dX5_trace_33 : decode cX5_trace 33 = .ok (.getfield 9, 3) := by decide +kernel
theorem dX5_trace_36 : decode cX5_trace 36 = .ok (.iload_n 3, 1) := by decide +kernel
theorem dX5_trace_37 : decode cX5_trace 37 = .ok (.iaload, 1) := by decide +kernel
theorem dX5_trace_38 : decode cX5_trace 38 = .ok (.ifCond .ne 5, 3) := by decide +kernel
theorem dX5_trace_41 : decode cX5_trace 41 = .ok (.iconst 0, 1) := by decide +kernel
theorem dX5_trace_42 : decode cX5_trace 42 = .ok (.ireturn, 1) := by decide +kernel
theorem dX5_trace_43 : decode cX5_trace 43 = .ok (.iload_n 3, 1) := by decide +kernel
theorem dX5_trace_44 : decode cX5_trace 44 = .ok (.istore 5, 2) := by decide +kernel
theorem dX5_trace_46 : decode cX5_trace 46 = .ok (.aload_n 0, 1) := by decide +kernel
theorem dX5_trace_47 : decode cX5_trace 47 = .ok (.bipush 8, 2) := by decide +kernel
theorem dX5_trace_49 : decode cX5_trace 49 = .ok (.aload_n 0, 1) := by decide +kernel
theorem dX5_trace_50 : decode cX5_trace 50 = .ok (.getfield 9, 3) := by decide +kernel
theorem dX5_trace_53 : decode cX5_trace 53 = .ok (.iload_n 3, 1) := by decide +kernel
theorem dX5_trace_54 : decode cX5_trace 54 = .ok (.iaload, 1) := by decide +kernel
theorem dX5_trace_55 : decode cX5_trace 55 = .ok (.invokestatic 26, 3) := by decide +kernel
theorem dX5_trace_58 : decode cX5_trace 58 = .ok (.putfield 18, 3) := by decide +kernel
theorem dX5_trace_61 : decode cX5_trace 61 = .ok (.iconst 0, 1) := by decide +kernel
theorem dX5_trace_62 : decode cX5_trace 62 = .ok (.istore 6, 2) := by decide +kernel
theorem dX5_trace_64 : decode cX5_trace 64 = .ok (.iload 6, 2) := by decide +kernel
theorem dX5_trace_66 : decode cX5_trace 66 = .ok (.aload_n 0, 1) := by decide +kernel
theorem dX5_trace_67 : decode cX5_trace 67 = .ok (.getfield 18, 3) := by decide +kernel
theorem dX5_trace_70 : decode cX5_trace 70 = .ok (.if_icmp .ge 28, 3) := by decide +kernel
theorem dX5_trace_73 : decode cX5_trace 73 = .ok (.aload_n 0, 1) := by decide +kernel
theorem dX5_trace_74 : decode cX5_trace 74 = .ok (.getfield 15, 3) := by decide +kernel
theorem dX5_trace_77 : decode cX5_trace 77 = .ok (.iload 6, 2) := by decide +kernel
theorem dX5_trace_79 : decode cX5_trace 79 = .ok (.iload 5, 2) := by decide +kernel
theorem dX5_trace_81 : decode cX5_trace 81 = .ok (.iastore, 1) := by decide +kernel
theorem dX5_trace_82 : decode cX5_trace 82 = .ok (.aload_n 0, 1) := by decide +kernel
theorem dX5_trace_83 : decode cX5_trace 83 = .ok (.aload_n 1, 1) := by decide +kernel
theorem dX5_trace_84 : decode cX5_trace 84 = .ok (.iload_n 2, 1) := by decide +kernel
theorem dX5_trace_85 : decode cX5_trace 85 = .ok (.iload 5, 2) := by decide +kernel
theorem dX5_trace_87 : decode cX5_trace 87 = .ok (.invokevirtual 32, 3) := by decide +kernel
theorem dX5_trace_90 : decode cX5_trace 90 = .ok (.istore 5, 2) := by decide +kernel
theorem dX5_trace_92 : decode cX5_trace 92 = .ok (.iinc 6 1, 3) := by decide +kernel
theorem dX5_trace_95 : decode cX5_trace 95 = .ok (.goto (-31), 3) := by decide +kernel
theorem dX5_trace_98 : decode cX5_trace 98 = .ok (.iconst 1, 1) := by decide +kernel
theorem dX5_trace_99 : decode cX5_trace 99 = .ok (.ireturn, 1) := by decide +kernel
theorem dX5_measure_0 : decode cX5_measure 0 = .ok (.aload_n 0, 1) := by decide +kernel
theorem dX5_measure_1 : decode cX5_measure 1 = .ok (.getfield 9, 3) := by decide +kernel
theorem dX5_measure_4 : decode cX5_measure 4 = .ok (.iconst 0, 1) := by decide +kernel
theorem dX5_measure_5 : decode cX5_measure 5 = .ok (.invokestatic 36, 3) := by decide +kernel
theorem dX5_measure_8 : decode cX5_measure 8 = .ok (.aload_n 0, 1) := by decide +kernel
theorem dX5_measure_9 : decode cX5_measure 9 = .ok (.getfield 9, 3) := by decide +kernel
theorem dX5_measure_12 : decode cX5_measure 12 = .ok (.iload_n 3, 1) := by decide +kernel
theorem dX5_measure_13 : decode cX5_measure 13 = .ok (.iconst 1, 1) := by decide +kernel
theorem dX5_measure_14 : decode cX5_measure 14 = .ok (.iastore, 1) := by decide +kernel
theorem dX5_measure_15 : decode cX5_measure 15 = .ok (.iconst 1, 1) := by decide +kernel
theorem dX5_measure_16 : decode cX5_measure 16 = .ok (.istore 4, 2) := by decide +kernel
theorem dX5_measure_18 : decode cX5_measure 18 = .ok (.iload 4, 2) := by decide +kernel
theorem dX5_measure_20 : decode cX5_measure 20 = .ok (.bipush 8, 2) := by decide +kernel
theorem dX5_measure_22 : decode cX5_measure 22 = .ok (.if_icmp .ge 65, 3) := by decide +kernel
theorem dX5_measure_25 : decode cX5_measure 25 = .ok (.iconst 0, 1) := by decide +kernel
theorem dX5_measure_26 : decode cX5_measure 26 = .ok (.istore 5, 2) := by decide +kernel
theorem dX5_measure_28 : decode cX5_measure 28 = .ok (.iload 5, 2) := by decide +kernel
theorem dX5_measure_30 : decode cX5_measure 30 = .ok (.iload_n 2, 1) := by decide +kernel
theorem dX5_measure_31 : decode cX5_measure 31 = .ok (.if_icmp .ge 50, 3) := by decide +kernel
theorem dX5_measure_34 : decode cX5_measure 34 = .ok (.iload 5, 2) := by decide +kernel
theorem dX5_measure_36 : decode cX5_measure 36 = .ok (.bipush 8, 2) := by decide +kernel
theorem dX5_measure_38 : decode cX5_measure 38 = .ok (.if_icmp .ge 43, 3) := by decide +kernel
theorem dX5_measure_41 : decode cX5_measure 41 = .ok (.aload_n 1, 1) := by decide +kernel
theorem dX5_measure_42 : decode cX5_measure 42 = .ok (.iload 5, 2) := by decide +kernel
theorem dX5_measure_44 : decode cX5_measure 44 = .ok (.aaload, 1) := by decide +kernel
theorem dX5_measure_45 : decode cX5_measure 45 = .ok (.astore 6, 2) := by decide +kernel
theorem dX5_measure_47 : decode cX5_measure 47 = .ok (.aload 6, 2) := by decide +kernel
theorem dX5_measure_49 : decode cX5_measure 49 = .ok (.ifnull 26, 3) := by decide +kernel
theorem dX5_measure_52 : decode cX5_measure 52 = .ok (.aload_n 0, 1) := by decide +kernel
theorem dX5_measure_53 : decode cX5_measure 53 = .ok (.getfield 9, 3) := by decide +kernel
theorem dX5_measure_56 : decode cX5_measure 56 = .ok (.iload 5, 2) := by decide +kernel
theorem dX5_measure_58 : decode cX5_measure 58 = .ok (.iaload, 1) := by decide +kernel
theorem dX5_measure_59 : decode cX5_measure 59 = .ok (.iload 4, 2) := by decide +kernel
theorem dX5_measure_61 : decode cX5_measure 61 = .ok (.if_icmp .ne 14, 3) := by decide +kernel
theorem dX5_measure_64 : decode cX5_measure 64 = .ok (.aload_n 0, 1) := by decide +kernel
theorem dX5_measure_65 : decode cX5_measure 65 = .ok (.aload 6, 2) := by decide +kernel
theorem dX5_measure_67 : decode cX5_measure 67 = .ok (.iload_n 2, 1) := by decide +kernel
theorem dX5_measure_68 : decode cX5_measure 68 = .ok (.iload 4, 2) := by decide +kernel
theorem dX5_measure_70 : decode cX5_measure 70 = .ok (.iconst 1, 1) := by decide +kernel
theorem dX5_measure_71 : decode cX5_measure 71 = .ok (.iadd, 1) := by decide +kernel
theorem dX5_measure_72 : decode cX5_measure 72 = .ok (.invokevirtual 42, 3) := by decide +kernel
theorem dX5_measure_75 : decode cX5_measure 75 = .ok (.iinc 5 1, 3) := by decide +kernel
theorem dX5_measure_78 : decode cX5_measure 78 = .ok (.goto (-50), 3) := by decide +kernel
theorem dX5_measure_81 : decode cX5_measure 81 = .ok (.iinc 4 1, 3) := by decide +kernel
theorem dX5_measure_84 : decode cX5_measure 84 = .ok (.goto (-66), 3) := by decide +kernel
theorem dX5_measure_87 : decode cX5_measure 87 = .ok (.return_, 1) := by decide +kernel
theorem dX5_markOwners_0 : decode cX5_markOwners 0 = .ok (.iconst 0, 1) := by decide +kernel
theorem dX5_markOwners_1 : decode cX5_markOwners 1 = .ok (.istore 4, 2) := by decide +kernel
theorem dX5_markOwners_3 : decode cX5_markOwners 3 = .ok (.iload 4, 2) := by decide +kernel
theorem dX5_markOwners_5 : decode cX5_markOwners 5 = .ok (.iload_n 2, 1) := by decide +kernel
theorem dX5_markOwners_6 : decode cX5_markOwners 6 = .ok (.if_icmp .ge 43, 3) := by decide +kernel
theorem dX5_markOwners_9 : decode cX5_markOwners 9 = .ok (.iload 4, 2) := by decide +kernel
theorem dX5_markOwners_11 : decode cX5_markOwners 11 = .ok (.bipush 8, 2) := by decide +kernel
theorem dX5_markOwners_13 : decode cX5_markOwners 13 = .ok (.if_icmp .ge 36, 3) := by decide +kernel
theorem dX5_markOwners_16 : decode cX5_markOwners 16 = .ok (.aload_n 0, 1) := by decide +kernel
theorem dX5_markOwners_17 : decode cX5_markOwners 17 = .ok (.getfield 9, 3) := by decide +kernel
theorem dX5_markOwners_20 : decode cX5_markOwners 20 = .ok (.iload 4, 2) := by decide +kernel
theorem dX5_markOwners_22 : decode cX5_markOwners 22 = .ok (.iaload, 1) := by decide +kernel
theorem dX5_markOwners_23 : decode cX5_markOwners 23 = .ok (.ifCond .ne 20, 3) := by decide +kernel
theorem dX5_markOwners_26 : decode cX5_markOwners 26 = .ok (.aload_n 1, 1) := by decide +kernel
theorem dX5_markOwners_27 : decode cX5_markOwners 27 = .ok (.iload 4, 2) := by decide +kernel
theorem dX5_markOwners_29 : decode cX5_markOwners 29 = .ok (.invokevirtual 46, 3) := by decide +kernel
theorem dX5_markOwners_32 : decode cX5_markOwners 32 = .ok (.ifCond .eq 11, 3) := by decide +kernel
theorem dX5_markOwners_35 : decode cX5_markOwners 35 = .ok (.aload_n 0, 1) := by decide +kernel
theorem dX5_markOwners_36 : decode cX5_markOwners 36 = .ok (.getfield 9, 3) := by decide +kernel
theorem dX5_markOwners_39 : decode cX5_markOwners 39 = .ok (.iload 4, 2) := by decide +kernel
theorem dX5_markOwners_41 : decode cX5_markOwners 41 = .ok (.iload_n 3, 1) := by decide +kernel
theorem dX5_markOwners_42 : decode cX5_markOwners 42 = .ok (.iastore, 1) := by decide +kernel
theorem dX5_markOwners_43 : decode cX5_markOwners 43 = .ok (.iinc 4 1, 3) := by decide +kernel
theorem dX5_markOwners_46 : decode cX5_markOwners 46 = .ok (.goto (-43), 3) := by decide +kernel
theorem dX5_markOwners_49 : decode cX5_markOwners 49 = .ok (.return_, 1) := by decide +kernel
theorem dX5_nextTowards_0 : decode cX5_nextTowards 0 = .ok (.iload_n 3, 1) := by decide +kernel
theorem dX5_nextTowards_1 : decode cX5_nextTowards 1 = .ok (.ifCond .lt 20, 3) := by decide +kernel
theorem dX5_nextTowards_4 : decode cX5_nextTowards 4 = .ok (.iload_n 3, 1) := by decide +kernel
theorem dX5_nextTowards_5 : decode cX5_nextTowards 5 = .ok (.bipush 8, 2) := by decide +kernel
theorem dX5_nextTowards_7 : decode cX5_nextTowards 7 = .ok (.if_icmp .ge 14, 3) := by decide +kernel
theorem dX5_nextTowards_10 : decode cX5_nextTowards 10 = .ok (.aload_n 0, 1) := by decide +kernel
theorem dX5_nextTowards_11 : decode cX5_nextTowards 11 = .ok (.getfield 9, 3) := by decide +kernel
theorem dX5_nextTowards_14 : decode cX5_nextTowards 14 = .ok (.iload_n 3, 1) := by decide +kernel
theorem dX5_nextTowards_15 : decode cX5_nextTowards 15 = .ok (.iaload, 1) := by decide +kernel
theorem dX5_nextTowards_16 : decode cX5_nextTowards 16 = .ok (.iconst 1, 1) := by decide +kernel
theorem dX5_nextTowards_17 : decode cX5_nextTowards 17 = .ok (.isub, 1) := by decide +kernel
theorem dX5_nextTowards_18 : decode cX5_nextTowards 18 = .ok (.goto 4, 3) := by decide +kernel
theorem dX5_nextTowards_22 : decode cX5_nextTowards 22 = .ok (.istore 4, 2) := by decide +kernel
theorem dX5_nextTowards_24 : decode cX5_nextTowards 24 = .ok (.iconst 0, 1) := by decide +kernel
theorem dX5_nextTowards_25 : decode cX5_nextTowards 25 = .ok (.istore 5, 2) := by decide +kernel
theorem dX5_nextTowards_27 : decode cX5_nextTowards 27 = .ok (.iload 5, 2) := by decide +kernel
theorem dX5_nextTowards_29 : decode cX5_nextTowards 29 = .ok (.iload_n 2, 1) := by decide +kernel
theorem dX5_nextTowards_30 : decode cX5_nextTowards 30 = .ok (.if_icmp .ge 56, 3) := by decide +kernel
theorem dX5_nextTowards_33 : decode cX5_nextTowards 33 = .ok (.iload 5, 2) := by decide +kernel
theorem dX5_nextTowards_35 : decode cX5_nextTowards 35 = .ok (.bipush 8, 2) := by decide +kernel
theorem dX5_nextTowards_37 : decode cX5_nextTowards 37 = .ok (.if_icmp .ge 49, 3) := by decide +kernel
theorem dX5_nextTowards_40 : decode cX5_nextTowards 40 = .ok (.iload 4, 2) := by decide +kernel
theorem dX5_nextTowards_42 : decode cX5_nextTowards 42 = .ok (.ifCond .le 44, 3) := by decide +kernel
theorem dX5_nextTowards_45 : decode cX5_nextTowards 45 = .ok (.aload_n 1, 1) := by decide +kernel
theorem dX5_nextTowards_46 : decode cX5_nextTowards 46 = .ok (.iload 5, 2) := by decide +kernel
theorem dX5_nextTowards_48 : decode cX5_nextTowards 48 = .ok (.aaload, 1) := by decide +kernel
theorem dX5_nextTowards_49 : decode cX5_nextTowards 49 = .ok (.astore 6, 2) := by decide +kernel
theorem dX5_nextTowards_51 : decode cX5_nextTowards 51 = .ok (.aload 6, 2) := by decide +kernel
theorem dX5_nextTowards_53 : decode cX5_nextTowards 53 = .ok (.ifnull 27, 3) := by decide +kernel
theorem dX5_nextTowards_56 : decode cX5_nextTowards 56 = .ok (.aload_n 0, 1) := by decide +kernel
theorem dX5_nextTowards_57 : decode cX5_nextTowards 57 = .ok (.getfield 9, 3) := by decide +kernel
theorem dX5_nextTowards_60 : decode cX5_nextTowards 60 = .ok (.iload 5, 2) := by decide +kernel
theorem dX5_nextTowards_62 : decode cX5_nextTowards 62 = .ok (.iaload, 1) := by decide +kernel
theorem dX5_nextTowards_63 : decode cX5_nextTowards 63 = .ok (.iload 4, 2) := by decide +kernel
theorem dX5_nextTowards_65 : decode cX5_nextTowards 65 = .ok (.if_icmp .ne 15, 3) := by decide +kernel
theorem dX5_nextTowards_68 : decode cX5_nextTowards 68 = .ok (.aload 6, 2) := by decide +kernel
theorem dX5_nextTowards_70 : decode cX5_nextTowards 70 = .ok (.iload_n 3, 1) := by decide +kernel
theorem dX5_nextTowards_71 : decode cX5_nextTowards 71 = .ok (.invokevirtual 46, 3) := by decide +kernel
theorem dX5_nextTowards_74 : decode cX5_nextTowards 74 = .ok (.ifCond .eq 6, 3) := by decide +kernel
theorem dX5_nextTowards_77 : decode cX5_nextTowards 77 = .ok (.iload 5, 2) := by decide +kernel
theorem dX5_nextTowards_79 : decode cX5_nextTowards 79 = .ok (.ireturn, 1) := by decide +kernel
theorem dX5_nextTowards_80 : decode cX5_nextTowards 80 = .ok (.iinc 5 1, 3) := by decide +kernel
theorem dX5_nextTowards_83 : decode cX5_nextTowards 83 = .ok (.goto (-56), 3) := by decide +kernel
theorem dX5_nextTowards_86 : decode cX5_nextTowards 86 = .ok (.iconst (-1), 1) := by decide +kernel
theorem dX5_nextTowards_87 : decode cX5_nextTowards 87 = .ok (.ireturn, 1) := by decide +kernel
theorem wd_296 : Cond.fieldLink RX5 18 RX5 "length" "I" ∈ lw_good := mem_t1 71 (by decide +kernel) rfl
theorem wd_297 : Cond.fieldLink RX5 15 RX5 "found" "[I" ∈ lw_good := mem_t1 70 (by decide +kernel) rfl
theorem wd_298 : Cond.fieldLink RX5 9 RX5 "far" "[I" ∈ lw_good := mem_t1 69 (by decide +kernel) rfl
theorem wd_299 : Cond.methodLink RX5 46 yX2_isOwnedBy ∈ lw_good := mem_t2 165 (by decide +kernel) rfl
theorem wd_300 : Cond.instanceMethod yX2_isOwnedBy ∈ lw_good := mem_t2 166 (by decide +kernel) rfl
theorem wd_301 : Cond.selects RX2 yX2_isOwnedBy yX2_isOwnedBy ∈ lw_good := mem_t2 167 (by decide +kernel) rfl
theorem wd_302 : Cond.code yX2_isOwnedBy cX2_isOwnedBy 2 (some .boolean) ∈ lw_good := mem_t2 168 rfl rfl
theorem wd_303 : Cond.methodLink RX5 36 yJ7_fill_53178 ∈ lw_good := mem_t2 158 (by decide +kernel) rfl
theorem wd_304 : Cond.static yJ7_fill_53178 ∈ lw_good := mem_t2 159 (by decide +kernel) rfl
theorem wd_305 : Cond.code yJ7_fill_53178 cJ7_fill_53178 4 none ∈ lw_good := mem_t2 160 rfl rfl
theorem wd_306 : Cond.methodLink RX5 42 yX5_markOwners ∈ lw_good := mem_t2 161 (by decide +kernel) rfl
theorem wd_307 : Cond.instanceMethod yX5_markOwners ∈ lw_good := mem_t2 163 (by decide +kernel) rfl
theorem wd_308 : Cond.selects RX5 yX5_markOwners yX5_markOwners ∈ lw_good := mem_p 6 (by decide +kernel) rfl
theorem wd_309 : Cond.initialized RX5 ∈ lw_good := mem_t1 3 (by decide +kernel) rfl
theorem wd_310 : Cond.code yX5_markOwners cX5_markOwners 5 none ∈ lw_good := mem_t2 164 rfl rfl
theorem wd_311 : Cond.methodLink RX5 22 yX5_measure ∈ lw_good := mem_t2 154 (by decide +kernel) rfl
theorem wd_312 : Cond.instanceMethod yX5_measure ∈ lw_good := mem_t2 156 (by decide +kernel) rfl
theorem wd_313 : Cond.selects RX5 yX5_measure yX5_measure ∈ lw_good := mem_p 5 (by decide +kernel) rfl
theorem wd_314 : Cond.code yX5_measure cX5_measure 7 none ∈ lw_good := mem_t2 157 rfl rfl
theorem wd_315 : Cond.methodLink RX5 26 Lib.Math.min.name ∈ lw_good := mem_t2 169 (by decide +kernel) rfl
theorem wd_316 : Cond.methodLink RX5 32 yX5_nextTowards ∈ lw_good := mem_t2 172 (by decide +kernel) rfl
theorem wd_317 : Cond.instanceMethod yX5_nextTowards ∈ lw_good := mem_t2 174 (by decide +kernel) rfl
theorem wd_318 : Cond.selects RX5 yX5_nextTowards yX5_nextTowards ∈ lw_good := mem_p 7 (by decide +kernel) rfl
theorem wd_319 : Cond.code yX5_nextTowards cX5_nextTowards 7 (some .int) ∈ lw_good := mem_t2 175 rfl rfl
theorem wd_320 : Cond.methodLink RX2 151 yX3_lacksEntries ∈ lw_good := mem_t3 226 (by decide +kernel) rfl
theorem wd_321 : Cond.fieldLink RX2 48 RX2 "moves" "LPartnersBook$DaySums;" ∈ lw_good := mem_t2 3 (by decide +kernel) rfl
theorem wd_322 : Cond.fieldLink RX2 178 RX1 "count" "I" ∈ lw_good := mem_t1 155 (by decide +kernel) rfl
theorem wd_323 : Cond.fieldLink RX2 52 RX2 "mends" "LPartnersBook$DaySums;" ∈ lw_good := mem_t2 6 (by decide +kernel) rfl
theorem wd_324 : Cond.fieldLink RX2 77 RX2 "closing" "LPartnersBook$Closing;" ∈ lw_good := mem_t2 12 (by decide +kernel) rfl
theorem wd_325 : Cond.fieldLink RX2 181 RX0 "count" "I" ∈ lw_good := mem_t1 194 (by decide +kernel) rfl
theorem wd_326 : Cond.methodLink RX2 182 yX2_firstOpenDay ∈ lw_good := mem_t5 61 (by decide +kernel) rfl
theorem wd_327 : Cond.instanceMethod yX2_firstOpenDay ∈ lw_good := mem_t3 222 (by decide +kernel) rfl
theorem wd_328 : Cond.selects RX2 yX2_firstOpenDay yX2_firstOpenDay ∈ lw_good := mem_t3 223 (by decide +kernel) rfl
theorem wd_329 : Cond.code yX2_firstOpenDay cX2_firstOpenDay 3 (some .int) ∈ lw_good := mem_t3 224 rfl rfl
