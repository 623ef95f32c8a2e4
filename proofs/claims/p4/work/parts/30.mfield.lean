theorem dX13_leaf_0 : decode cX13_leaf 0 = .ok (.aload_n 0, 1) := by decide +kernel
theorem dX13_leaf_1 : decode cX13_leaf 1 = .ok (.iconst 0, 1) := by decide +kernel
theorem dX13_leaf_2 : decode cX13_leaf 2 = .ok (.putfield 55, 3) := by decide +kernel
theorem dX13_leaf_5 : decode cX13_leaf 5 = .ok (.aload_n 0, 1) := by decide +kernel
theorem dX13_leaf_6 : decode cX13_leaf 6 = .ok (.iload_n 1, 1) := by decide +kernel
theorem dX13_leaf_7 : decode cX13_leaf 7 = .ok (.invokevirtual 64, 3) := by decide +kernel
theorem dX13_leaf_10 : decode cX13_leaf 10 = .ok (.ifCond .ne 9, 3) := by decide +kernel
theorem dX13_leaf_13 : decode cX13_leaf 13 = .ok (.aload_n 0, 1) := by decide +kernel
theorem dX13_leaf_14 : decode cX13_leaf 14 = .ok (.iconst 1, 1) := by decide +kernel
theorem dX13_leaf_15 : decode cX13_leaf 15 = .ok (.invokevirtual 73, 3) := by decide +kernel
theorem dX13_leaf_18 : decode cX13_leaf 18 = .ok (.ireturn, 1) := by decide +kernel
theorem dX13_leaf_19 : decode cX13_leaf 19 = .ok (.iload_n 3, 1) := by decide +kernel
theorem dX13_leaf_20 : decode cX13_leaf 20 = .ok (.ifCond .lt 20, 3) := by decide +kernel
theorem dX13_leaf_23 : decode cX13_leaf 23 = .ok (.iload_n 3, 1) := by decide +kernel
theorem dX13_leaf_24 : decode cX13_leaf 24 = .ok (.iconst 2, 1) := by decide +kernel
theorem dX13_leaf_25 : decode cX13_leaf 25 = .ok (.if_icmp .gt 15, 3) := by decide +kernel
theorem dX13_leaf_28 : decode cX13_leaf 28 = .ok (.iload 4, 2) := by decide +kernel
theorem dX13_leaf_30 : decode cX13_leaf 30 = .ok (.ifCond .lt 10, 3) := by decide +kernel
theorem dX13_leaf_33 : decode cX13_leaf 33 = .ok (.iload 4, 2) := by decide +kernel
theorem dX13_leaf_35 : decode cX13_leaf 35 = .ok (.bipush 6, 2) := by decide +kernel
theorem dX13_leaf_37 : decode cX13_leaf 37 = .ok (.if_icmp .le 9, 3) := by decide +kernel
theorem dX13_leaf_40 : decode cX13_leaf 40 = .ok (.aload_n 0, 1) := by decide +kernel
theorem dX13_leaf_41 : decode cX13_leaf 41 = .ok (.iconst 2, 1) := by decide +kernel
theorem dX13_leaf_42 : decode cX13_leaf 42 = .ok (.invokevirtual 73, 3) := by decide +kernel
theorem dX13_leaf_45 : decode cX13_leaf 45 = .ok (.ireturn, 1) := by decide +kernel
theorem dX13_leaf_46 : decode cX13_leaf 46 = .ok (.aload_n 0, 1) := by decide +kernel
theorem dX13_leaf_47 : decode cX13_leaf 47 = .ok (.getfield 12, 3) := by decide +kernel
theorem dX13_leaf_50 : decode cX13_leaf 50 = .ok (.iload_n 1, 1) := by decide +kernel
theorem dX13_leaf_51 : decode cX13_leaf 51 = .ok (.aaload, 1) := by decide +kernel
theorem dX13_leaf_52 : decode cX13_leaf 52 = .ok (.astore 5, 2) := by decide +kernel
theorem dX13_leaf_54 : decode cX13_leaf 54 = .ok (.aload 5, 2) := by decide +kernel
theorem dX13_leaf_56 : decode cX13_leaf 56 = .ok (.iload_n 2, 1) := by decide +kernel
theorem dX13_leaf_57 : decode cX13_leaf 57 = .ok (.invokevirtual 131, 3) := by decide +kernel
theorem dX13_leaf_60 : decode cX13_leaf 60 = .ok (.ifCond .ne 9, 3) := by decide +kernel
theorem dX13_leaf_63 : decode cX13_leaf 63 = .ok (.aload_n 0, 1) := by decide +kernel
theorem dX13_leaf_64 : decode cX13_leaf 64 = .ok (.iconst 3, 1) := by decide +kernel
theorem dX13_leaf_65 : decode cX13_leaf 65 = .ok (.invokevirtual 73, 3) := by decide +kernel
theorem dX13_leaf_68 : decode cX13_leaf 68 = .ok (.ireturn, 1) := by decide +kernel
theorem dX13_leaf_69 : decode cX13_leaf 69 = .ok (.aload 5, 2) := by decide +kernel
theorem dX13_leaf_71 : decode cX13_leaf 71 = .ok (.getfield 83, 3) := by decide +kernel
theorem dX13_leaf_74 : decode cX13_leaf 74 = .ok (.iload_n 2, 1) := by decide +kernel
theorem dX13_leaf_75 : decode cX13_leaf 75 = .ok (.iload 4, 2) := by decide +kernel
theorem dX13_leaf_77 : decode cX13_leaf 77 = .ok (.iastore, 1) := by decide +kernel
theorem dX13_leaf_78 : decode cX13_leaf 78 = .ok (.aload 5, 2) := by decide +kernel
theorem dX13_leaf_80 : decode cX13_leaf 80 = .ok (.getfield 157, 3) := by decide +kernel
theorem dX13_leaf_83 : decode cX13_leaf 83 = .ok (.iload_n 2, 1) := by decide +kernel
theorem dX13_leaf_84 : decode cX13_leaf 84 = .ok (.iconst 0, 1) := by decide +kernel
theorem dX13_leaf_85 : decode cX13_leaf 85 = .ok (.iastore, 1) := by decide +kernel
theorem dX13_leaf_86 : decode cX13_leaf 86 = .ok (.aload 5, 2) := by decide +kernel
theorem dX13_leaf_88 : decode cX13_leaf 88 = .ok (.getfield 158, 3) := by decide +kernel
theorem dX13_leaf_91 : decode cX13_leaf 91 = .ok (.iload_n 2, 1) := by decide +kernel
theorem dX13_leaf_92 : decode cX13_leaf 92 = .ok (.iload_n 3, 1) := by decide +kernel
theorem dX13_leaf_93 : decode cX13_leaf 93 = .ok (.iastore, 1) := by decide +kernel
theorem dX13_leaf_94 : decode cX13_leaf 94 = .ok (.aload 5, 2) := by decide +kernel
theorem dX13_leaf_96 : decode cX13_leaf 96 = .ok (.iconst 0, 1) := by decide +kernel
theorem dX13_leaf_97 : decode cX13_leaf 97 = .ok (.putfield 161, 3) := by decide +kernel
theorem dX13_leaf_100 : decode cX13_leaf 100 = .ok (.aload_n 0, 1) := by decide +kernel
theorem dX13_leaf_101 : decode cX13_leaf 101 = .ok (.iload 4, 2) := by decide +kernel
theorem dX13_leaf_103 : decode cX13_leaf 103 = .ok (.invokevirtual 86, 3) := by decide +kernel
theorem dX13_leaf_106 : decode cX13_leaf 106 = .ok (.ireturn, 1) := by decide +kernel
theorem dX13_tear_0 : decode cX13_tear 0 = .ok (.aload_n 0, 1) := by decide +kernel
theorem dX13_tear_1 : decode cX13_tear 1 = .ok (.iconst 0, 1) := by decide +kernel
theorem dX13_tear_2 : decode cX13_tear 2 = .ok (.putfield 55, 3) := by decide +kernel
theorem dX13_tear_5 : decode cX13_tear 5 = .ok (.aload_n 0, 1) := by decide +kernel
theorem dX13_tear_6 : decode cX13_tear 6 = .ok (.iload_n 1, 1) := by decide +kernel
theorem dX13_tear_7 : decode cX13_tear 7 = .ok (.invokevirtual 64, 3) := by decide +kernel
theorem dX13_tear_10 : decode cX13_tear 10 = .ok (.ifCond .ne 9, 3) := by decide +kernel
theorem dX13_tear_13 : decode cX13_tear 13 = .ok (.aload_n 0, 1) := by decide +kernel
theorem dX13_tear_14 : decode cX13_tear 14 = .ok (.iconst 1, 1) := by decide +kernel
theorem dX13_tear_15 : decode cX13_tear 15 = .ok (.invokevirtual 73, 3) := by decide +kernel
theorem dX13_tear_18 : decode cX13_tear 18 = .ok (.ireturn, 1) := by decide +kernel
theorem dX13_tear_19 : decode cX13_tear 19 = .ok (.aload_n 0, 1) := by decide +kernel
theorem dX13_tear_20 : decode cX13_tear 20 = .ok (.getfield 12, 3) := by decide +kernel
theorem dX13_tear_23 : decode cX13_tear 23 = .ok (.iload_n 1, 1) := by decide +kernel
theorem dX13_tear_24 : decode cX13_tear 24 = .ok (.aaload, 1) := by decide +kernel
theorem dX13_tear_25 : decode cX13_tear 25 = .ok (.astore_n 3, 1) := by decide +kernel
theorem dX13_tear_26 : decode cX13_tear 26 = .ok (.aload_n 3, 1) := by decide +kernel
theorem dX13_tear_27 : decode cX13_tear 27 = .ok (.iload_n 2, 1) := by decide +kernel
theorem dX13_tear_28 : decode cX13_tear 28 = .ok (.invokevirtual 131, 3) := by decide +kernel
theorem dX13_tear_31 : decode cX13_tear 31 = .ok (.ifCond .ne 9, 3) := by decide +kernel
theorem dX13_tear_34 : decode cX13_tear 34 = .ok (.aload_n 0, 1) := by decide +kernel
theorem dX13_tear_35 : decode cX13_tear 35 = .ok (.iconst 3, 1) := by decide +kernel
theorem dX13_tear_36 : decode cX13_tear 36 = .ok (.invokevirtual 73, 3) := by decide +kernel
theorem dX13_tear_39 : decode cX13_tear 39 = .ok (.ireturn, 1) := by decide +kernel
theorem dX13_tear_40 : decode cX13_tear 40 = .ok (.aload_n 3, 1) := by decide +kernel
theorem dX13_tear_41 : decode cX13_tear 41 = .ok (.getfield 83, 3) := by decide +kernel
theorem dX13_tear_44 : decode cX13_tear 44 = .ok (.iload_n 2, 1) := by decide +kernel
theorem dX13_tear_45 : decode cX13_tear 45 = .ok (.iaload, 1) := by decide +kernel
theorem dX13_tear_46 : decode cX13_tear 46 = .ok (.iconst (-1), 1) := by decide +kernel
theorem dX13_tear_47 : decode cX13_tear 47 = .ok (.if_icmp .ne 10, 3) := by decide +kernel
theorem dX13_tear_50 : decode cX13_tear 50 = .ok (.aload_n 0, 1) := by decide +kernel
theorem dX13_tear_51 : decode cX13_tear 51 = .ok (.bipush 10, 2) := by decide +kernel
theorem dX13_tear_53 : decode cX13_tear 53 = .ok (.invokevirtual 73, 3) := by decide +kernel
theorem dX13_tear_56 : decode cX13_tear 56 = .ok (.ireturn, 1) := by decide +kernel
theorem dX13_tear_57 : decode cX13_tear 57 = .ok (.aload_n 3, 1) := by decide +kernel
theorem dX13_tear_58 : decode cX13_tear 58 = .ok (.getfield 157, 3) := by decide +kernel
theorem dX13_tear_61 : decode cX13_tear 61 = .ok (.iload_n 2, 1) := by decide +kernel
theorem dX13_tear_62 : decode cX13_tear 62 = .ok (.iaload, 1) := by decide +kernel
theorem dX13_tear_63 : decode cX13_tear 63 = .ok (.istore 4, 2) := by decide +kernel
theorem dX13_tear_65 : decode cX13_tear 65 = .ok (.aload_n 3, 1) := by decide +kernel
theorem dX13_tear_66 : decode cX13_tear 66 = .ok (.getfield 83, 3) := by decide +kernel
theorem dX13_tear_69 : decode cX13_tear 69 = .ok (.iload_n 2, 1) := by decide +kernel
theorem dX13_tear_70 : decode cX13_tear 70 = .ok (.iconst (-1), 1) := by decide +kernel
theorem dX13_tear_71 : decode cX13_tear 71 = .ok (.iastore, 1) := by decide +kernel
theorem dX13_tear_72 : decode cX13_tear 72 = .ok (.aload_n 3, 1) := by decide +kernel
theorem dX13_tear_73 : decode cX13_tear 73 = .ok (.getfield 157, 3) := by decide +kernel
theorem dX13_tear_76 : decode cX13_tear 76 = .ok (.iload_n 2, 1) := by decide +kernel
theorem dX13_tear_77 : decode cX13_tear 77 = .ok (.iconst 0, 1) := by decide +kernel
theorem dX13_tear_78 : decode cX13_tear 78 = .ok (.iastore, 1) := by decide +kernel
theorem dX13_tear_79 : decode cX13_tear 79 = .ok (.aload_n 3, 1) := by decide +kernel
theorem dX13_tear_80 : decode cX13_tear 80 = .ok (.iconst 0, 1) := by decide +kernel
theorem dX13_tear_81 : decode cX13_tear 81 = .ok (.putfield 161, 3) := by decide +kernel
theorem dX13_tear_84 : decode cX13_tear 84 = .ok (.aload_n 0, 1) := by decide +kernel
theorem dX13_tear_85 : decode cX13_tear 85 = .ok (.iload 4, 2) := by decide +kernel
theorem dX13_tear_87 : decode cX13_tear 87 = .ok (.invokevirtual 86, 3) := by decide +kernel
theorem dX13_tear_90 : decode cX13_tear 90 = .ok (.ireturn, 1) := by decide +kernel
theorem dX13_loose_0 : decode cX13_loose 0 = .ok (.aload_n 0, 1) := by decide +kernel
theorem dX13_loose_1 : decode cX13_loose 1 = .ok (.iconst 0, 1) := by decide +kernel
theorem dX13_loose_2 : decode cX13_loose 2 = .ok (.putfield 55, 3) := by decide +kernel
theorem dX13_loose_5 : decode cX13_loose 5 = .ok (.aload_n 0, 1) := by decide +kernel
theorem dX13_loose_6 : decode cX13_loose 6 = .ok (.iload_n 1, 1) := by decide +kernel
theorem dX13_loose_7 : decode cX13_loose 7 = .ok (.invokevirtual 64, 3) := by decide +kernel
theorem dX13_loose_10 : decode cX13_loose 10 = .ok (.ifCond .ne 9, 3) := by decide +kernel
theorem dX13_loose_13 : decode cX13_loose 13 = .ok (.aload_n 0, 1) := by decide +kernel
theorem dX13_loose_14 : decode cX13_loose 14 = .ok (.iconst 1, 1) := by decide +kernel
theorem dX13_loose_15 : decode cX13_loose 15 = .ok (.invokevirtual 73, 3) := by decide +kernel
theorem dX13_loose_18 : decode cX13_loose 18 = .ok (.ireturn, 1) := by decide +kernel
theorem dX13_loose_19 : decode cX13_loose 19 = .ok (.iload_n 2, 1) := by decide +kernel
theorem dX13_loose_20 : decode cX13_loose 20 = .ok (.ldc 178, 2) := by decide +kernel
theorem dX13_loose_22 : decode cX13_loose 22 = .ok (.if_icmp .lt 9, 3) := by decide +kernel
theorem dX13_loose_25 : decode cX13_loose 25 = .ok (.iload_n 2, 1) := by decide +kernel
theorem dX13_loose_26 : decode cX13_loose 26 = .ok (.ldc 71, 2) := by decide +kernel
theorem dX13_loose_28 : decode cX13_loose 28 = .ok (.if_icmp .le 9, 3) := by decide +kernel
theorem dX13_loose_31 : decode cX13_loose 31 = .ok (.aload_n 0, 1) := by decide +kernel
theorem dX13_loose_32 : decode cX13_loose 32 = .ok (.iconst 2, 1) := by decide +kernel
theorem dX13_loose_33 : decode cX13_loose 33 = .ok (.invokevirtual 73, 3) := by decide +kernel
theorem dX13_loose_36 : decode cX13_loose 36 = .ok (.ireturn, 1) := by decide +kernel
theorem dX13_loose_37 : decode cX13_loose 37 = .ok (.aload_n 0, 1) := by decide +kernel
theorem dX13_loose_38 : decode cX13_loose 38 = .ok (.getfield 12, 3) := by decide +kernel
theorem dX13_loose_41 : decode cX13_loose 41 = .ok (.iload_n 1, 1) := by decide +kernel
theorem dX13_loose_42 : decode cX13_loose 42 = .ok (.aaload, 1) := by decide +kernel
theorem dX13_loose_43 : decode cX13_loose 43 = .ok (.astore_n 3, 1) := by decide +kernel
theorem dX13_loose_44 : decode cX13_loose 44 = .ok (.aload_n 3, 1) := by decide +kernel
theorem dX13_loose_45 : decode cX13_loose 45 = .ok (.getfield 179, 3) := by decide +kernel
theorem dX13_loose_48 : decode cX13_loose 48 = .ok (.iload_n 2, 1) := by decide +kernel
theorem dX13_loose_49 : decode cX13_loose 49 = .ok (.i2l, 1) := by decide +kernel
theorem dX13_loose_50 : decode cX13_loose 50 = .ok (.ladd, 1) := by decide +kernel
theorem dX13_loose_51 : decode cX13_loose 51 = .ok (.lstore 4, 2) := by decide +kernel
theorem dX13_loose_53 : decode cX13_loose 53 = .ok (.lload 4, 2) := by decide +kernel
theorem dX13_loose_55 : decode cX13_loose 55 = .ok (.ldc2_w 183, 3) := by decide +kernel
theorem dX13_loose_58 : decode cX13_loose 58 = .ok (.lcmp, 1) := by decide +kernel
theorem dX13_loose_59 : decode cX13_loose 59 = .ok (.ifCond .gt 12, 3) := by decide +kernel
theorem dX13_loose_62 : decode cX13_loose 62 = .ok (.lload 4, 2) := by decide +kernel
theorem dX13_loose_64 : decode cX13_loose 64 = .ok (.ldc2_w 185, 3) := by decide +kernel
theorem dX13_loose_67 : decode cX13_loose 67 = .ok (.lcmp, 1) := by decide +kernel
theorem dX13_loose_68 : decode cX13_loose 68 = .ok (.ifCond .ge 10, 3) := by decide +kernel
theorem dX13_loose_71 : decode cX13_loose 71 = .ok (.aload_n 0, 1) := by decide +kernel
theorem dX13_loose_72 : decode cX13_loose 72 = .ok (.bipush 9, 2) := by decide +kernel
theorem dX13_loose_74 : decode cX13_loose 74 = .ok (.invokevirtual 73, 3) := by decide +kernel
theorem dX13_loose_77 : decode cX13_loose 77 = .ok (.ireturn, 1) := by decide +kernel
theorem dX13_loose_78 : decode cX13_loose 78 = .ok (.aload_n 3, 1) := by decide +kernel
theorem dX13_loose_79 : decode cX13_loose 79 = .ok (.lload 4, 2) := by decide +kernel
theorem dX13_loose_81 : decode cX13_loose 81 = .ok (.putfield 179, 3) := by decide +kernel
theorem dX13_loose_84 : decode cX13_loose 84 = .ok (.aload_n 0, 1) := by decide +kernel
theorem dX13_loose_85 : decode cX13_loose 85 = .ok (.iconst 1, 1) := by decide +kernel
theorem dX13_loose_86 : decode cX13_loose 86 = .ok (.invokevirtual 86, 3) := by decide +kernel
theorem dX13_loose_89 : decode cX13_loose 89 = .ok (.ireturn, 1) := by decide +kernel
theorem dX13_end_0 : decode cX13_end 0 = .ok (.aload_n 0, 1) := by decide +kernel
theorem dX13_end_1 : decode cX13_end 1 = .ok (.iconst 0, 1) := by decide +kernel
theorem dX13_end_2 : decode cX13_end 2 = .ok (.putfield 55, 3) := by decide +kernel
theorem dX13_end_5 : decode cX13_end 5 = .ok (.aload_n 0, 1) := by decide +kernel
theorem dX13_end_6 : decode cX13_end 6 = .ok (.iload_n 1, 1) := by decide +kernel
theorem dX13_end_7 : decode cX13_end 7 = .ok (.invokevirtual 64, 3) := by decide +kernel
theorem dX13_end_10 : decode cX13_end 10 = .ok (.ifCond .ne 9, 3) := by decide +kernel
theorem dX13_end_13 : decode cX13_end 13 = .ok (.aload_n 0, 1) := by decide +kernel
theorem dX13_end_14 : decode cX13_end 14 = .ok (.iconst 1, 1) := by decide +kernel
theorem dX13_end_15 : decode cX13_end 15 = .ok (.invokevirtual 73, 3) := by decide +kernel
theorem dX13_end_18 : decode cX13_end 18 = .ok (.ireturn, 1) := by decide +kernel
theorem dX13_end_19 : decode cX13_end 19 = .ok (.aload_n 0, 1) := by decide +kernel
theorem dX13_end_20 : decode cX13_end 20 = .ok (.getfield 12, 3) := by decide +kernel
theorem dX13_end_23 : decode cX13_end 23 = .ok (.iload_n 1, 1) := by decide +kernel
theorem dX13_end_24 : decode cX13_end 24 = .ok (.aaload, 1) := by decide +kernel
theorem dX13_end_25 : decode cX13_end 25 = .ok (.astore_n 3, 1) := by decide +kernel
theorem dX13_end_26 : decode cX13_end 26 = .ok (.aload_n 3, 1) := by decide +kernel
theorem dX13_end_27 : decode cX13_end 27 = .ok (.getfield 233, 3) := by decide +kernel
theorem dX13_end_30 : decode cX13_end 30 = .ok (.ifCond .ne 10, 3) := by decide +kernel
theorem dX13_end_33 : decode cX13_end 33 = .ok (.aload_n 3, 1) := by decide +kernel
theorem dX13_end_34 : decode cX13_end 34 = .ok (.getfield 77, 3) := by decide +kernel
theorem dX13_end_37 : decode cX13_end 37 = .ok (.goto 16, 3) := by decide +kernel
theorem dX13_end_40 : decode cX13_end 40 = .ok (.aload_n 3, 1) := by decide +kernel
theorem dX13_end_41 : decode cX13_end 41 = .ok (.getfield 236, 3) := by decide +kernel
theorem dX13_end_44 : decode cX13_end 44 = .ok (.aload_n 3, 1) := by decide +kernel
theorem dX13_end_45 : decode cX13_end 45 = .ok (.getfield 233, 3) := by decide +kernel
theorem dX13_end_48 : decode cX13_end 48 = .ok (.iconst 1, 1) := by decide +kernel
theorem dX13_end_49 : decode cX13_end 49 = .ok (.isub, 1) := by decide +kernel
theorem dX13_end_50 : decode cX13_end 50 = .ok (.iaload, 1) := by decide +kernel
theorem dX13_end_51 : decode cX13_end 51 = .ok (.iconst 1, 1) := by decide +kernel
theorem dX13_end_52 : decode cX13_end 52 = .ok (.iadd, 1) := by decide +kernel
theorem dX13_end_53 : decode cX13_end 53 = .ok (.istore 4, 2) := by decide +kernel
theorem dX13_end_55 : decode cX13_end 55 = .ok (.iload_n 2, 1) := by decide +kernel
theorem dX13_end_56 : decode cX13_end 56 = .ok (.ifCond .lt 25, 3) := by decide +kernel
theorem dX13_end_59 : decode cX13_end 59 = .ok (.iload_n 2, 1) := by decide +kernel
theorem dX13_end_60 : decode cX13_end 60 = .ok (.sipush 1000, 3) := by decide +kernel
theorem dX13_end_63 : decode cX13_end 63 = .ok (.if_icmp .ge 18, 3) := by decide +kernel
theorem dX13_end_66 : decode cX13_end 66 = .ok (.iload_n 2, 1) := by decide +kernel
theorem dX13_end_67 : decode cX13_end 67 = .ok (.iload 4, 2) := by decide +kernel
theorem dX13_end_69 : decode cX13_end 69 = .ok (.if_icmp .lt 12, 3) := by decide +kernel
theorem dX13_end_72 : decode cX13_end 72 = .ok (.iload_n 2, 1) := by decide +kernel
theorem dX13_end_73 : decode cX13_end 73 = .ok (.iload 4, 2) := by decide +kernel
theorem dX13_end_75 : decode cX13_end 75 = .ok (.bipush 99, 2) := by decide +kernel
theorem dX13_end_77 : decode cX13_end 77 = .ok (.iadd, 1) := by decide +kernel
theorem dX13_end_78 : decode cX13_end 78 = .ok (.if_icmp .le 9, 3) := by decide +kernel
theorem dX13_end_81 : decode cX13_end 81 = .ok (.aload_n 0, 1) := by decide +kernel
theorem dX13_end_82 : decode cX13_end 82 = .ok (.iconst 3, 1) := by decide +kernel
theorem dX13_end_83 : decode cX13_end 83 = .ok (.invokevirtual 73, 3) := by decide +kernel
theorem dX13_end_86 : decode cX13_end 86 = .ok (.ireturn, 1) := by decide +kernel
theorem dX13_end_87 : decode cX13_end 87 = .ok (.aload_n 3, 1) := by decide +kernel
theorem dX13_end_88 : decode cX13_end 88 = .ok (.getfield 233, 3) := by decide +kernel
theorem dX13_end_91 : decode cX13_end 91 = .ok (.bipush 12, 2) := by decide +kernel
theorem dX13_end_93 : decode cX13_end 93 = .ok (.if_icmp .ne 10, 3) := by decide +kernel
theorem dX13_end_96 : decode cX13_end 96 = .ok (.aload_n 0, 1) := by decide +kernel
theorem dX13_end_97 : decode cX13_end 97 = .ok (.bipush 9, 2) := by decide +kernel
theorem dX13_end_99 : decode cX13_end 99 = .ok (.invokevirtual 73, 3) := by decide +kernel
theorem dX13_end_102 : decode cX13_end 102 = .ok (.ireturn, 1) := by decide +kernel
theorem dX13_end_103 : decode cX13_end 103 = .ok (.aload_n 3, 1) := by decide +kernel
theorem dX13_end_104 : decode cX13_end 104 = .ok (.getfield 236, 3) := by decide +kernel
theorem dX13_end_107 : decode cX13_end 107 = .ok (.aload_n 3, 1) := by decide +kernel
theorem dX13_end_108 : decode cX13_end 108 = .ok (.getfield 233, 3) := by decide +kernel
theorem dX13_end_111 : decode cX13_end 111 = .ok (.iload_n 2, 1) := by decide +kernel
theorem dX13_end_112 : decode cX13_end 112 = .ok (.iastore, 1) := by decide +kernel
theorem dX13_end_113 : decode cX13_end 113 = .ok (.aload_n 3, 1) := by decide +kernel
theorem dX13_end_114 : decode cX13_end 114 = .ok (.dup, 1) := by decide +kernel
theorem dX13_end_115 : decode cX13_end 115 = .ok (.getfield 233, 3) := by decide +kernel
theorem dX13_end_118 : decode cX13_end 118 = .ok (.iconst 1, 1) := by decide +kernel
theorem dX13_end_119 : decode cX13_end 119 = .ok (.iadd, 1) := by decide +kernel
theorem dX13_end_120 : decode cX13_end 120 = .ok (.putfield 233, 3) := by decide +kernel
theorem dX13_end_123 : decode cX13_end 123 = .ok (.aload_n 0, 1) := by decide +kernel
theorem dX13_end_124 : decode cX13_end 124 = .ok (.aload_n 3, 1) := by decide +kernel
theorem dX13_end_125 : decode cX13_end 125 = .ok (.getfield 233, 3) := by decide +kernel
theorem dX13_end_128 : decode cX13_end 128 = .ok (.invokevirtual 86, 3) := by decide +kernel
theorem dX13_end_131 : decode cX13_end 131 = .ok (.ireturn, 1) := by decide +kernel
theorem dX13_mend_0 : decode cX13_mend 0 = .ok (.aload_n 0, 1) := by decide +kernel
theorem dX13_mend_1 : decode cX13_mend 1 = .ok (.iconst 0, 1) := by decide +kernel
theorem dX13_mend_2 : decode cX13_mend 2 = .ok (.putfield 55, 3) := by decide +kernel
theorem dX13_mend_5 : decode cX13_mend 5 = .ok (.aload_n 0, 1) := by decide +kernel
theorem dX13_mend_6 : decode cX13_mend 6 = .ok (.iload_n 1, 1) := by decide +kernel
theorem dX13_mend_7 : decode cX13_mend 7 = .ok (.invokevirtual 64, 3) := by decide +kernel
theorem dX13_mend_10 : decode cX13_mend 10 = .ok (.ifCond .ne 9, 3) := by decide +kernel
theorem dX13_mend_13 : decode cX13_mend 13 = .ok (.aload_n 0, 1) := by decide +kernel
theorem dX13_mend_14 : decode cX13_mend 14 = .ok (.iconst 1, 1) := by decide +kernel
theorem dX13_mend_15 : decode cX13_mend 15 = .ok (.invokevirtual 73, 3) := by decide +kernel
theorem dX13_mend_18 : decode cX13_mend 18 = .ok (.ireturn, 1) := by decide +kernel
theorem dX13_mend_19 : decode cX13_mend 19 = .ok (.iload_n 3, 1) := by decide +kernel
theorem dX13_mend_20 : decode cX13_mend 20 = .ok (.ifCond .eq 15, 3) := by decide +kernel
theorem dX13_mend_23 : decode cX13_mend 23 = .ok (.iload_n 3, 1) := by decide +kernel
theorem dX13_mend_24 : decode cX13_mend 24 = .ok (.ldc 71, 2) := by decide +kernel
theorem dX13_mend_26 : decode cX13_mend 26 = .ok (.if_icmp .gt 9, 3) := by decide +kernel
theorem dX13_mend_29 : decode cX13_mend 29 = .ok (.iload_n 3, 1) := by decide +kernel
theorem dX13_mend_30 : decode cX13_mend 30 = .ok (.ldc 178, 2) := by decide +kernel
theorem dX13_mend_32 : decode cX13_mend 32 = .ok (.if_icmp .ge 9, 3) := by decide +kernel
theorem dX13_mend_35 : decode cX13_mend 35 = .ok (.aload_n 0, 1) := by decide +kernel
theorem dX13_mend_36 : decode cX13_mend 36 = .ok (.iconst 2, 1) := by decide +kernel
theorem dX13_mend_37 : decode cX13_mend 37 = .ok (.invokevirtual 73, 3) := by decide +kernel
theorem dX13_mend_40 : decode cX13_mend 40 = .ok (.ireturn, 1) := by decide +kernel
theorem dX13_mend_41 : decode cX13_mend 41 = .ok (.aload_n 0, 1) := by decide +kernel
theorem dX13_mend_42 : decode cX13_mend 42 = .ok (.getfield 12, 3) := by decide +kernel
theorem dX13_mend_45 : decode cX13_mend 45 = .ok (.iload_n 1, 1) := by decide +kernel
theorem dX13_mend_46 : decode cX13_mend 46 = .ok (.aaload, 1) := by decide +kernel
theorem dX13_mend_47 : decode cX13_mend 47 = .ok (.astore 4, 2) := by decide +kernel
theorem dX13_mend_49 : decode cX13_mend 49 = .ok (.iload_n 2, 1) := by decide +kernel
theorem dX13_mend_50 : decode cX13_mend 50 = .ok (.aload 4, 2) := by decide +kernel
theorem dX13_mend_52 : decode cX13_mend 52 = .ok (.getfield 77, 3) := by decide +kernel
theorem dX13_mend_55 : decode cX13_mend 55 = .ok (.if_icmp .lt 12, 3) := by decide +kernel
theorem dX13_mend_58 : decode cX13_mend 58 = .ok (.iload_n 2, 1) := by decide +kernel
theorem dX13_mend_59 : decode cX13_mend 59 = .ok (.aload 4, 2) := by decide +kernel
theorem dX13_mend_61 : decode cX13_mend 61 = .ok (.getfield 80, 3) := by decide +kernel
theorem dX13_mend_64 : decode cX13_mend 64 = .ok (.if_icmp .le 9, 3) := by decide +kernel
theorem dX13_mend_67 : decode cX13_mend 67 = .ok (.aload_n 0, 1) := by decide +kernel
theorem dX13_mend_68 : decode cX13_mend 68 = .ok (.iconst 3, 1) := by decide +kernel
theorem dX13_mend_69 : decode cX13_mend 69 = .ok (.invokevirtual 73, 3) := by decide +kernel
theorem dX13_mend_72 : decode cX13_mend 72 = .ok (.ireturn, 1) := by decide +kernel
theorem dX13_mend_73 : decode cX13_mend 73 = .ok (.aload 4, 2) := by decide +kernel
theorem dX13_mend_75 : decode cX13_mend 75 = .ok (.getfield 279, 3) := by decide +kernel
theorem dX13_mend_78 : decode cX13_mend 78 = .ok (.bipush 20, 2) := by decide +kernel
theorem dX13_mend_80 : decode cX13_mend 80 = .ok (.if_icmp .ne 10, 3) := by decide +kernel
theorem dX13_mend_83 : decode cX13_mend 83 = .ok (.aload_n 0, 1) := by decide +kernel
theorem dX13_mend_84 : decode cX13_mend 84 = .ok (.bipush 9, 2) := by decide +kernel
theorem dX13_mend_86 : decode cX13_mend 86 = .ok (.invokevirtual 73, 3) := by decide +kernel
theorem dX13_mend_89 : decode cX13_mend 89 = .ok (.ireturn, 1) := by decide +kernel
theorem dX13_mend_90 : decode cX13_mend 90 = .ok (.aload 4, 2) := by decide +kernel
theorem dX13_mend_92 : decode cX13_mend 92 = .ok (.getfield 358, 3) := by decide +kernel
theorem dX13_mend_95 : decode cX13_mend 95 = .ok (.aload 4, 2) := by decide +kernel
theorem dX13_mend_97 : decode cX13_mend 97 = .ok (.getfield 279, 3) := by decide +kernel
theorem dX13_mend_100 : decode cX13_mend 100 = .ok (.iload_n 2, 1) := by decide +kernel
theorem dX13_mend_101 : decode cX13_mend 101 = .ok (.iastore, 1) := by decide +kernel
theorem dX13_mend_102 : decode cX13_mend 102 = .ok (.aload 4, 2) := by decide +kernel
theorem dX13_mend_104 : decode cX13_mend 104 = .ok (.getfield 361, 3) := by decide +kernel
theorem dX13_mend_107 : decode cX13_mend 107 = .ok (.aload 4, 2) := by decide +kernel
theorem dX13_mend_109 : decode cX13_mend 109 = .ok (.getfield 279, 3) := by decide +kernel
theorem dX13_mend_112 : decode cX13_mend 112 = .ok (.iload_n 3, 1) := by decide +kernel
theorem dX13_mend_113 : decode cX13_mend 113 = .ok (.iastore, 1) := by decide +kernel
theorem dX13_mend_114 : decode cX13_mend 114 = .ok (.aload 4, 2) := by decide +kernel
theorem dX13_mend_116 : decode cX13_mend 116 = .ok (.dup, 1) := by decide +kernel
theorem dX13_mend_117 : decode cX13_mend 117 = .ok (.getfield 279, 3) := by decide +kernel
theorem dX13_mend_120 : decode cX13_mend 120 = .ok (.iconst 1, 1) := by decide +kernel
theorem dX13_mend_121 : decode cX13_mend 121 = .ok (.iadd, 1) := by decide +kernel
theorem dX13_mend_122 : decode cX13_mend 122 = .ok (.putfield 279, 3) := by decide +kernel
theorem dX13_mend_125 : decode cX13_mend 125 = .ok (.aload_n 0, 1) := by decide +kernel
theorem dX13_mend_126 : decode cX13_mend 126 = .ok (.aload 4, 2) := by decide +kernel
theorem dX13_mend_128 : decode cX13_mend 128 = .ok (.getfield 279, 3) := by decide +kernel
theorem dX13_mend_131 : decode cX13_mend 131 = .ok (.invokevirtual 86, 3) := by decide +kernel
theorem dX13_mend_134 : decode cX13_mend 134 = .ok (.ireturn, 1) := by decide +kernel
theorem wd_822 : Cond.constant RX13 178 (-1000000000) ∈ lw_good := mem_t6 239 (by decide +kernel) rfl
theorem wd_823 : Cond.constantLong RX13 183 1000000000000 ∈ lw_good := mem_t7 0 (by decide +kernel) rfl
theorem wd_824 : Cond.constantLong RX13 185 (-1000000000000) ∈ lw_good := mem_t7 1 (by decide +kernel) rfl
/-- of the Houses only the fields js may have changed -/
def fG (K : Kp) (L : List Nat) (js : List Nat) (M M' : Hp) : Prop := ∀ a, isk K L a 12 0 → ∀ fs fs' : List Value, M a = .inr (12, fs) → M' a = .inr (12, fs') → ∀ j, j ∉ js → fs'[j]? = fs[j]?
theorem inr12 {fs fs' : List Value} (h : (.inr (12, fs) : va_E) = .inr (12, fs')) : fs = fs' := (Prod.mk.inj (Sum.inr.inj h)).2
theorem fG.rf {K : Kp} {L js : List Nat} {M : Hp} : fG K L js M M := fun _ _ fs fs' h h' _ _ => by rw [inr12 (h.symm.trans h')]
theorem fG.frR {K : Kp} {L js ts : List Nat} {M M1 M2 : Hp} (h : fG K L js M M1) (g : fr K L ts M1 M2) (ht : 12 ∉ ts) : fG K L js M M2 := fun a ha fs fs' e e' j hj => by
  rw [g.at ha ht] at e'
  exact h a ha fs fs' e e' j hj
theorem fG.tr {cy : Nat → ClassId} {K : Kp} {L js us : List Nat} {M M1 M2 : Hp} (h : fG K L js M M1) (hW : WOM cy K L M1) (g : fG K L us M1 M2) (hs : ∀ t ∈ us, t ∈ js) : fG K L js M M2 := fun a ha fs fs' e e' j hj => by
  obtain ⟨f1, h1, _, _⟩ := hW.open_12 ha
  exact (g a ha f1 fs' h1 e' j (fun q => hj (hs _ q))).trans (h a ha fs f1 e h1 j hj)
theorem fG.up {K : Kp} {L js : List Nat} {M M1 : Hp} {a i : Nat} {gs : List Value} {v : Value} (h : fG K L js M M1) (hM : M1 a = .inr (12, gs)) (hi : i ∈ js) : fG K L js M (va_up M1 a (.inr (12, gs.set i v))) := fun b hb fs fs' e e' j hj => by
  by_cases q : b = a
  · subst q
    rw [va_up_self] at e'
    have e2 := inr12 e'
    rw [← e2, List.getElem?_set_ne (show i ≠ j from fun z => hj (z ▸ hi))]
    exact h b hb fs gs e hM j hj
  · rw [va_up_ne M1 _ q] at e'
    exact h b hb fs fs' e e' j hj
theorem fG.arr {K : Kp} {L js : List Nat} {M M1 : Hp} {a t n : Nat} {e0 : va_E} (h : fG K L js M M1) (ha : isk K L a t n) (ht : t ≠ 12) : fG K L js M (va_up M1 a e0) := fun b hb fs fs' e e' j hj => by
  have q : b ≠ a := fun z => ht (by subst z; exact (Prod.mk.inj (ha.2.symm.trans hb.2)).1)
  rw [va_up_ne M1 _ q] at e'
  exact h b hb fs fs' e e' j hj
theorem geN {x : Int32} {n : Nat} (hn : n < 2147483648) (h : nI n ≤ x) : ¬ x < 0 := fun q => by
  have h1 := Int32.le_iff_toInt_le.mp h
  have h2 := Int32.lt_iff_toInt_lt.mp q
  rw [nI_toInt hn] at h1
  rw [show (0 : Int32).toInt = 0 from rfl] at h2
  omega
theorem leB {x : Int32} {b c : Nat} (hc : c < b) (hb : b < 2147483648) (h : x ≤ nI c) : ¬ nI b ≤ x := fun q => by
  have h1 := Int32.le_iff_toInt_le.mp h
  have h2 := Int32.le_iff_toInt_le.mp q
  rw [nI_toInt (by omega)] at h1
  rw [nI_toInt hb] at h2
  omega
theorem m1B {x : Int32} (h : x ≤ (-1)) : ¬ 0 ≤ x := fun q => by
  have h1 := Int32.le_iff_toInt_le.mp h
  have h2 := Int32.le_iff_toInt_le.mp q
  rw [show (-1 : Int32).toInt = -1 from rfl] at h1
  rw [show (0 : Int32).toInt = 0 from rfl] at h2
  omega
set_option maxHeartbeats 4000000 in
set_option maxRecDepth 100000 in
theorem r_X13_loose (l : Launch) (D : va_G) (cy : Nat → ClassId) (K : Kp) (L : List Nat) (M : Hp) (sz : Nat) (za : Nat) (z0 : Int32) (z1 : Nat) (z2 : Nat) (z3 : Nat) (z4 : Int32) (z5 : Int32) (z6 : Nat) (z7 : Nat) (z8 : Nat) (z9 : Nat) (z10 : Nat) (z11 : Nat) (z12 : Nat) (z13 : Nat) (z14 : Nat) (z15 : Nat) (z16 : Nat) (z17 : Nat) (z18 : Int32) (z19 : Nat) (k1 : Int32) (k2 : Int32) (hW : WOM cy K L M) (i1 : isk K L z1 23 8) (b2 : z2 ≤ 8) (b3 : z3 ≤ 40) (i6 : isk K L z6 47 40) (i7 : isk K L z7 48 40) (i8 : isk K L z8 49 8) (i9 : isk K L z9 50 8) (b10 : z10 ≤ 8) (i11 : isk K L z11 32 24) (i12 : isk K L z12 14 24) (i13 : isk K L z13 15 24) (i14 : isk K L z14 15 24) (i15 : isk K L z15 15 24) (b16 : z16 ≤ 24) (i17 : isk K L z17 14 24) (i19 : isk K L z19 15 25) : Met l yX13_loose (wsM yX13_loose cX13_loose 6 (some .int)) ({ frames := 1, cells := 0, slots := 0, locals := 21 }) (va_Pc [.ref za, .int k1, .int k2] (PG D cy [(za, .inr (13, [.int z0, .ref z1, .int (nI z2), .int (nI z3), .int z4, .int z5, .ref z6, .ref z7, .ref z8, .ref z9, .int (nI z10), .ref z11, .ref z12, .ref z13, .ref z14, .ref z15, .int (nI z16), .ref z17, .int z18, .ref z19]))] L M sz)) (va_Qi (fun (r : Int32) (M9 : Hp) => WOM cy K L M9 ∧ fr K L [12] M M9 ∧ fG K L [7] M M9 ∧ (True)) (fun M9 t => ∃ (w4 : Int32) (w5 : Int32), PQ D [(za, .inr (13, [.int 0, .ref z1, .int (nI z2), .int (nI z3), .int w4, .int w5, .ref z6, .ref z7, .ref z8, .ref z9, .int (nI z10), .ref z11, .ref z12, .ref z13, .ref z14, .ref z15, .int (nI z16), .ref z17, .int z18, .ref z19]))] L M9 (va_A ([(za, .inr (13, [.int z0, .ref z1, .int (nI z2), .int (nI z3), .int z4, .int z5, .ref z6, .ref z7, .ref z8, .ref z9, .int (nI z10), .ref z11, .ref z12, .ref z13, .ref z14, .ref z15, .int (nI z16), .ref z17, .int z18, .ref z19]))] ++ va_pl L M) sz) t) (va_A ([(za, .inr (13, [.int z0, .ref z1, .int (nI z2), .int (nI z3), .int z4, .int z5, .ref z6, .ref z7, .ref z8, .ref z9, .int (nI z10), .ref z11, .ref z12, .ref z13, .ref z14, .ref z15, .int (nI z16), .ref z17, .int z18, .ref z19]))] ++ va_pl L M) sz)) 0 0 (va_A ([(za, .inr (13, [.int z0, .ref z1, .int (nI z2), .int (nI z3), .int z4, .int z5, .ref z6, .ref z7, .ref z8, .ref z9, .int (nI z10), .ref z11, .ref z12, .ref z13, .ref z14, .ref z15, .int (nI z16), .ref z17, .int z18, .ref z19]))] ++ va_pl L M) sz) := by
  refine Met.ofW (cc := cX13_loose) (maxL := 6) (ret := (some .int)) (by decide) rfl ?_
  intro p e s m args below meth c s₁ B hml hv
  obtain ⟨rfl, hsz, hP, hK, hD0, hN⟩ := hv
  have hx := B.exec
  have hb := B.bytes
  have hr := B.returns
  have hts := atoms_spec (ws := (wsM yX13_loose cX13_loose 6 (some .int))) B.pre
  have hg : ∀ w ∈ lw_good, w.before _ s = true := fun w h => hts w (List.mem_cons_of_mem _ h)
  have hown : s.vm.findClass RX13 = some m.cls := findClass_of_methodNamed B.named
  have hlocks := B.notSynchronized
  subst hsz
  have hD := hD0.self (sz := s.heap.size)
  generalize hAe : va_A ([(za, .inr (13, [.int z0, .ref z1, .int (nI z2), .int (nI z3), .int z4, .int z5, .ref z6, .ref z7, .ref z8, .ref z9, .int (nI z10), .ref z11, .ref z12, .ref z13, .ref z14, .ref z15, .int (nI z16), .ref z17, .int z18, .ref z19]))] ++ va_pl L M) s.heap.size = A at hD ⊢
  have hA : ∀ q : Nat, s.heap.size ≤ q → A q := fun q h => by rw [← hAe]; exact Or.inr h
  have hS : va_S A s.heap s.heap [] := va_S.rf
  have hl := lv_entry ([.ref za, .int k1, .int k2]) (n := 6) (Nat.le_of_ble_eq_true rfl)
  rw [lg_entry_eq]
  generalize (lg_sl ([.ref za, .int k1, .int k2]) ++ List.replicate (6 - (lg_sl ([.ref za, .int k1, .int k2])).length) Slot.unset).toArray = ls at hl ⊢
  refine W.nameQ (fun Q hQ => ?_)
  refine W.nameR (fun R hR => ?_)
  have hRf : 1 ≤ R.frames := by rw [hR]; exact Nat.le_of_ble_eq_true rfl
  have hRl : 21 ≤ R.locals := by rw [hR]; exact Nat.le_of_ble_eq_true rfl
  have hRc : 0 ≤ R.cells := by rw [hR]; exact Nat.le_of_ble_eq_true rfl
  have hRs : 0 ≤ R.slots := by rw [hR]; exact Nat.le_of_ble_eq_true rfl
  have hF : fr K L [12] M M := fr.rf
  have hG : fG K L [7] M M := fG.rf
  have hl : lv_has ls 6 [(0, .ref za), (1, .int k1), (2, .int k2)] := hl
  refine lv_aload_n hx hb dX13_loose_0 rfl (lv_at hl 0 rfl) ?_
  refine lv_iconst (v := 0) hx hb dX13_loose_1 (by decide) ?_
  refine va_put (D := D) (ci := 13) (v := .int 0) (ty := .int) (C := RX13) (T := TX13) (N := 20) hx hb hg inG13 tyX13 tyX13_ok nmX13 hown hK hP hD hS 0 rfl rfl 0 (by decide) (hg _ wd_720) (fun _ h9 => h9) rfl (by decide +kernel) rfl rfl (Nat.le_of_ble_eq_true rfl) dX13_loose_2 (fun H_1 locs hP hD hS => ?_)
  have hP : va_P D vwCl ([(za, .inr (13, [.int 0, .ref z1, .int (nI z2), .int (nI z3), .int z4, .int z5, .ref z6, .ref z7, .ref z8, .ref z9, .int (nI z10), .ref z11, .ref z12, .ref z13, .ref z14, .ref z15, .int (nI z16), .ref z17, .int z18, .ref z19]))] ++ va_pl L M) H_1 := hP
  have hD : va_D A ([(za, .inr (13, [.int 0, .ref z1, .int (nI z2), .int (nI z3), .int z4, .int z5, .ref z6, .ref z7, .ref z8, .ref z9, .int (nI z10), .ref z11, .ref z12, .ref z13, .ref z14, .ref z15, .int (nI z16), .ref z17, .int z18, .ref z19]))] ++ va_pl L M) := hD
  refine lv_aload_n hx hb dX13_loose_5 rfl (lv_at hl 0 rfl) ?_
  refine lv_iload_n hx hb dX13_loose_6 rfl (lv_at hl 1 rfl) ?_
  have hPc : va_P D vwCl ([(za, .inr (13, [.int 0, .ref z1, .int (nI z2), .int (nI z3), .int z4, .int z5, .ref z6, .ref z7, .ref z8, .ref z9, .int (nI z10), .ref z11, .ref z12, .ref z13, .ref z14, .ref z15, .int (nI z16), .ref z17, .int z18, .ref z19]))] ++ va_pl L M) H_1 := hP
  have hDc : va_D A ([(za, .inr (13, [.int 0, .ref z1, .int (nI z2), .int (nI z3), .int z4, .int z5, .ref z6, .ref z7, .ref z8, .ref z9, .int (nI z10), .ref z11, .ref z12, .ref z13, .ref z14, .ref z15, .int (nI z16), .ref z17, .int z18, .ref z19]))] ++ va_pl L M) := hD
  have hFc : ∀ q, va_A ([(za, .inr (13, [.int 0, .ref z1, .int (nI z2), .int (nI z3), .int z4, .int z5, .ref z6, .ref z7, .ref z8, .ref z9, .int (nI z10), .ref z11, .ref z12, .ref z13, .ref z14, .ref z15, .int (nI z16), .ref z17, .int z18, .ref z19]))] ++ va_pl L M) H_1.size q → A q := pg_free hDc hS hA
  refine va_calli (va_runV (As := [.int k1]) (rest := []) ⟨hx, hb, hml, hown, hg⟩ (r_X13_isHouse l D cy K L M H_1.size za 0 z1 z2 z3 z4 z5 z6 z7 z8 z9 z10 z11 z12 z13 z14 z15 z16 z17 z18 z19 k1  hW i1 b2 b3 i6 i7 i8 i9 b10 i11 i12 i13 i14 i15 b16 i17 i19) (cwV 1 hg (gV wd_714 wd_715 wd_716 wd_717 wd_718) rfl rfl rfl (by decide +kernel) ⟨(Nat.le_trans (Nat.le_of_ble_eq_true rfl) hRf), (Nat.le_trans (Nat.le_of_ble_eq_true rfl) hRl)⟩) ⟨PG.blind, va_recv hK hP (ci := 13) (q0 := 0) rfl rfl, fun U hU hW => ⟨rfl, PG.at hPc hK hDc hN hU hW⟩⟩ rfl rfl hl.1 rfl (lv_room (Nat.le_of_ble_eq_true rfl)) dX13_loose_7 ⟨(Nat.le_trans (Nat.le_of_ble_eq_true rfl) hRc), (Nat.le_trans (Nat.le_of_ble_eq_true rfl) hRs)⟩) hS (fun q _ h => hFc q h) hFc (fun r_3 M_4 t H_2 locs ht hvm hw hB hz1 hk1 hS => ?_)
  have hp_5 := hw
  obtain ⟨hP1, hD1⟩ := hB
  rw [ht] at hP1
  have hP : va_P D vwCl ([(za, .inr (13, [.int 0, .ref z1, .int (nI z2), .int (nI z3), .int z4, .int z5, .ref z6, .ref z7, .ref z8, .ref z9, .int (nI z10), .ref z11, .ref z12, .ref z13, .ref z14, .ref z15, .int (nI z16), .ref z17, .int z18, .ref z19]))] ++ va_pl L M) H_2 := hP1
  have hD : va_D A ([(za, .inr (13, [.int 0, .ref z1, .int (nI z2), .int (nI z3), .int z4, .int z5, .ref z6, .ref z7, .ref z8, .ref z9, .int (nI z10), .ref z11, .ref z12, .ref z13, .ref z14, .ref z15, .int (nI z16), .ref z17, .int z18, .ref z19]))] ++ va_pl L M) := hD1.mono hFc
  rcases hp_5 with ⟨rfl, c_6, c_7⟩ | rfl
  · have hz := rfl (a := 0)
    refine lv_if_ne (tgt := 19) hx hb dX13_loose_10 (by decide) (fun _ => ?_) (fun c_8 => absurd c_8 (by decide))
    refine lv_iload_n hx hb dX13_loose_19 rfl (lv_at hl 2 rfl) ?_
    refine lv_ldc (v := (-1000000000)) hx hb hown (hg _ wd_822) dX13_loose_20 ?_
    refine lv_icmp_lt (tgt := 31) hx hb dX13_loose_22 (by decide) (fun c_9 => ?_) (fun c_9 => ?_)
    · have hz := rfl (a := 0)
      refine lv_aload_n hx hb dX13_loose_31 rfl (lv_at hl 0 rfl) ?_
      refine lv_iconst (v := 2) hx hb dX13_loose_32 (by decide) ?_
      have hPc := hP.sub (ws' := [(za, .inr (13, [.int 0, .ref z1, .int (nI z2), .int (nI z3), .int z4, .int z5, .ref z6, .ref z7, .ref z8, .ref z9, .int (nI z10), .ref z11, .ref z12, .ref z13, .ref z14, .ref z15, .int (nI z16), .ref z17, .int z18, .ref z19]))]) [0] rfl
      have hDc := hD.sub (ws' := [(za, .inr (13, [.int 0, .ref z1, .int (nI z2), .int (nI z3), .int z4, .int z5, .ref z6, .ref z7, .ref z8, .ref z9, .int (nI z10), .ref z11, .ref z12, .ref z13, .ref z14, .ref z15, .int (nI z16), .ref z17, .int z18, .ref z19]))]) [0] (by decide) rfl
      have hKc := hK.sub (tys' := []) [] rfl
      have hFc := va_free (wc := [(za, .inr (13, [.int 0, .ref z1, .int (nI z2), .int (nI z3), .int z4, .int z5, .ref z6, .ref z7, .ref z8, .ref z9, .int (nI z10), .ref z11, .ref z12, .ref z13, .ref z14, .ref z15, .int (nI z16), .ref z17, .int z18, .ref z19]))]) hD hS hA [0] rfl
      refine va_calli (va_runV (As := [.int 2]) (rest := []) ⟨hx, hb, hml, hown, hg⟩ (m_refused l D H_2.size za 0 z1 (nI z2) (nI z3) z4 z5 z6 z7 z8 z9 (nI z10) z11 z12 z13 z14 z15 (nI z16) z17 z18 z19 2) (cwV 1 hg (gV wd_725 wd_726 wd_727 wd_717 wd_728) rfl rfl rfl (by decide +kernel) ⟨(Nat.le_trans (Nat.le_of_ble_eq_true rfl) hRf), (Nat.le_trans (Nat.le_of_ble_eq_true rfl) hRl)⟩) ⟨Pr.blind, va_recv hK hP (ci := 13) (q0 := 0) rfl rfl, fun U hU hW => ⟨rfl, Pr.at hPc hKc hDc hN hU hW⟩⟩ rfl rfl hl.1 rfl (lv_room (Nat.le_of_ble_eq_true rfl)) dX13_loose_33 ⟨(Nat.le_trans (Nat.le_of_ble_eq_true rfl) hRc), (Nat.le_trans (Nat.le_of_ble_eq_true rfl) hRs)⟩) hS (fun q _ h => hFc q h) hFc (fun r_11 M_12 t H_10 locs ht hvm hw hB hz1 hk1 hS => ?_)
      have hp_13 := hw
      obtain ⟨hP1, hK1, hD1⟩ := hB
      rw [ht] at hP1
      obtain ⟨hP, hD⟩ := va_joinQ (X := [(za, .inr (13, [.int 0, .ref z1, .int (nI z2), .int (nI z3), .int z4, .int z5, .ref z6, .ref z7, .ref z8, .ref z9, .int (nI z10), .ref z11, .ref z12, .ref z13, .ref z14, .ref z15, .int (nI z16), .ref z17, .int z18, .ref z19]))]) (cx := [(za, .inr (13, [.int 0, .ref z1, .int (nI z2), .int (nI z3), .int z4, .int z5, .ref z6, .ref z7, .ref z8, .ref z9, .int (nI z10), .ref z11, .ref z12, .ref z13, .ref z14, .ref z15, .int (nI z16), .ref z17, .int z18, .ref z19]))]) (wr := []) (w1 := [(za, .inr (13, [.int 0, .ref z1, .int (nI z2), .int (nI z3), .int 2, .int (-1), .ref z6, .ref z7, .ref z8, .ref z9, .int (nI z10), .ref z11, .ref z12, .ref z13, .ref z14, .ref z15, .int (nI z16), .ref z17, .int z18, .ref z19]))]) (pl := va_pl L M) hP hD [0] [] rfl rfl (by decide) (by decide) hk1 hFc hP1 hD1
      have hP : va_P D vwCl ([(za, .inr (13, [.int 0, .ref z1, .int (nI z2), .int (nI z3), .int 2, .int (-1), .ref z6, .ref z7, .ref z8, .ref z9, .int (nI z10), .ref z11, .ref z12, .ref z13, .ref z14, .ref z15, .int (nI z16), .ref z17, .int z18, .ref z19]))] ++ va_pl L M) H_10 := hP
      have hD : va_D A ([(za, .inr (13, [.int 0, .ref z1, .int (nI z2), .int (nI z3), .int 2, .int (-1), .ref z6, .ref z7, .ref z8, .ref z9, .int (nI z10), .ref z11, .ref z12, .ref z13, .ref z14, .ref z15, .int (nI z16), .ref z17, .int z18, .ref z19]))] ++ va_pl L M) := hD
      have hq := Eq.symm hp_13
      subst hq
      rw [hQ]
      exact W.iret (v := (-1)) hx hb hr (fun t ht hW9 => ⟨⟨(-1), M, rfl, ⟨hW, hF, hG, trivial⟩, ⟨2, (-1), by rw [ht]; exact hP, hD⟩⟩, hS.F ht⟩) hS.2.2 dX13_loose_36
    · have hz := rfl (a := 0)
      refine lv_iload_n hx hb dX13_loose_25 rfl (lv_at hl 2 rfl) ?_
      refine lv_ldc (v := 1000000000) hx hb hown (hg _ wd_712) dX13_loose_26 ?_
      refine lv_icmp_le (tgt := 37) hx hb dX13_loose_28 (by decide) (fun c_14 => ?_) (fun c_14 => ?_)
      · have hz := rfl (a := 0)
        refine lv_aload_n hx hb dX13_loose_37 rfl (lv_at hl 0 rfl) ?_
        refine va_get (D := D) (ci := 13) (v := .ref z1) (C := RX13) (T := TX13) (N := 20) hx hb hg inG13 hown hK hP 0 rfl rfl 1 (by decide) (hg _ wd_739) (fun _ h9 => h9) rfl dX13_loose_38 ?_
        refine lv_iload_n hx hb dX13_loose_41 rfl (lv_at hl 1 rfl) ?_
        obtain ⟨f15, hM15, hf15⟩ := hW.open_23 i1
        have hi_16 : vp_in k1 8 := (inbW (a := z2) (by omega) (inb k1 z2 (by omega) c_6 c_7))
        refine pg_aldq hx hb hK hP i1.1 9 hM15 rfl hi_16 dX13_loose_42 ?_
        obtain ⟨b17, eb_18, hb_19⟩ := hf15 _ (vp_lt hi_16)
        rw [eb_18]
        refine lv_astore_n (lv' := [(3, .ref b17), (0, .ref za), (1, .int k1), (2, .int k2)]) hx hb dX13_loose_43 rfl hl (by decide) rfl (fun ls hl => ?_)
        refine lv_aload_n hx hb dX13_loose_44 rfl (lv_at hl 0 rfl) ?_
        obtain ⟨fs20, hM20, hn20, hl20⟩ := hW.open_12 hb_19
        obtain ⟨v21, hv21⟩ : ∃ v : Int64, fs20[7]? = some (.long v : Value) := hl20 7 (by decide)
        refine pg_getN (D := D) (ci := 12) (v := .long v21) (C := RX12) (T := TX12) (N := 51) hx hb hg inG12 hown hK hP hb_19.1 hM20 rfl 7 (by decide) (hN.use (Cond.fieldLinkNest RX13 179 RX12 "loose" "J" RX13) 16 rfl rfl) (fun _ h9 => h9) hv21 dX13_loose_45 ?_
        refine lv_iload_n hx hb dX13_loose_48 rfl (lv_at hl 3 rfl) ?_
        refine lv_i2l hx hb dX13_loose_49 rfl ?_
        refine lv_topl (fun f_22 ef_22 => ?_)
        refine lv_ladd hx hb dX13_loose_50 ?_
        refine lv_topl (fun f_23 ef_23 => ?_)
        refine lv_lstore (lv' := [(4, .long f_23), (3, .ref b17), (0, .ref za), (1, .int k1), (2, .int k2)]) hx hb dX13_loose_51 hl (by decide) rfl (fun ls hl => ?_)
        refine lv_lload hx hb dX13_loose_53 (lv_at hl 0 rfl) ?_
        refine lv_ldc2 (v := 1000000000000) hx hb hown (hg _ wd_823) dX13_loose_55 ?_
        refine W.lcmp hx hb dX13_loose_58 ?_
        refine lv_if_gt (tgt := 71) hx hb dX13_loose_59 (by decide) (fun c_24 => ?_) (fun c_24 => ?_)
        · have hz := rfl (a := 0)
          have d_25 : 1000000000000 < f_23 := lc_gtt c_24
          refine lv_aload_n hx hb dX13_loose_71 rfl (lv_at hl 2 rfl) ?_
          refine lv_bipush (v := 9) hx hb dX13_loose_72 (by decide) ?_
          have hPc := hP.sub (ws' := [(za, .inr (13, [.int 0, .ref z1, .int (nI z2), .int (nI z3), .int z4, .int z5, .ref z6, .ref z7, .ref z8, .ref z9, .int (nI z10), .ref z11, .ref z12, .ref z13, .ref z14, .ref z15, .int (nI z16), .ref z17, .int z18, .ref z19]))]) [0] rfl
          have hDc := hD.sub (ws' := [(za, .inr (13, [.int 0, .ref z1, .int (nI z2), .int (nI z3), .int z4, .int z5, .ref z6, .ref z7, .ref z8, .ref z9, .int (nI z10), .ref z11, .ref z12, .ref z13, .ref z14, .ref z15, .int (nI z16), .ref z17, .int z18, .ref z19]))]) [0] (by decide) rfl
          have hKc := hK.sub (tys' := []) [] rfl
          have hFc := va_free (wc := [(za, .inr (13, [.int 0, .ref z1, .int (nI z2), .int (nI z3), .int z4, .int z5, .ref z6, .ref z7, .ref z8, .ref z9, .int (nI z10), .ref z11, .ref z12, .ref z13, .ref z14, .ref z15, .int (nI z16), .ref z17, .int z18, .ref z19]))]) hD hS hA [0] rfl
          refine va_calli (va_runV (As := [.int 9]) (rest := []) ⟨hx, hb, hml, hown, hg⟩ (m_refused l D H_2.size za 0 z1 (nI z2) (nI z3) z4 z5 z6 z7 z8 z9 (nI z10) z11 z12 z13 z14 z15 (nI z16) z17 z18 z19 9) (cwV 1 hg (gV wd_725 wd_726 wd_727 wd_717 wd_728) rfl rfl rfl (by decide +kernel) ⟨(Nat.le_trans (Nat.le_of_ble_eq_true rfl) hRf), (Nat.le_trans (Nat.le_of_ble_eq_true rfl) hRl)⟩) ⟨Pr.blind, va_recv hK hP (ci := 13) (q0 := 0) rfl rfl, fun U hU hW => ⟨rfl, Pr.at hPc hKc hDc hN hU hW⟩⟩ rfl rfl hl.1 rfl (lv_room (Nat.le_of_ble_eq_true rfl)) dX13_loose_74 ⟨(Nat.le_trans (Nat.le_of_ble_eq_true rfl) hRc), (Nat.le_trans (Nat.le_of_ble_eq_true rfl) hRs)⟩) hS (fun q _ h => hFc q h) hFc (fun r_27 M_28 t H_26 locs ht hvm hw hB hz1 hk1 hS => ?_)
          have hp_29 := hw
          obtain ⟨hP1, hK1, hD1⟩ := hB
          rw [ht] at hP1
          obtain ⟨hP, hD⟩ := va_joinQ (X := [(za, .inr (13, [.int 0, .ref z1, .int (nI z2), .int (nI z3), .int z4, .int z5, .ref z6, .ref z7, .ref z8, .ref z9, .int (nI z10), .ref z11, .ref z12, .ref z13, .ref z14, .ref z15, .int (nI z16), .ref z17, .int z18, .ref z19]))]) (cx := [(za, .inr (13, [.int 0, .ref z1, .int (nI z2), .int (nI z3), .int z4, .int z5, .ref z6, .ref z7, .ref z8, .ref z9, .int (nI z10), .ref z11, .ref z12, .ref z13, .ref z14, .ref z15, .int (nI z16), .ref z17, .int z18, .ref z19]))]) (wr := []) (w1 := [(za, .inr (13, [.int 0, .ref z1, .int (nI z2), .int (nI z3), .int 9, .int (-1), .ref z6, .ref z7, .ref z8, .ref z9, .int (nI z10), .ref z11, .ref z12, .ref z13, .ref z14, .ref z15, .int (nI z16), .ref z17, .int z18, .ref z19]))]) (pl := va_pl L M) hP hD [0] [] rfl rfl (by decide) (by decide) hk1 hFc hP1 hD1
          have hP : va_P D vwCl ([(za, .inr (13, [.int 0, .ref z1, .int (nI z2), .int (nI z3), .int 9, .int (-1), .ref z6, .ref z7, .ref z8, .ref z9, .int (nI z10), .ref z11, .ref z12, .ref z13, .ref z14, .ref z15, .int (nI z16), .ref z17, .int z18, .ref z19]))] ++ va_pl L M) H_26 := hP
          have hD : va_D A ([(za, .inr (13, [.int 0, .ref z1, .int (nI z2), .int (nI z3), .int 9, .int (-1), .ref z6, .ref z7, .ref z8, .ref z9, .int (nI z10), .ref z11, .ref z12, .ref z13, .ref z14, .ref z15, .int (nI z16), .ref z17, .int z18, .ref z19]))] ++ va_pl L M) := hD
          have hq := Eq.symm hp_29
          subst hq
          rw [hQ]
          exact W.iret (v := (-1)) hx hb hr (fun t ht hW9 => ⟨⟨(-1), M, rfl, ⟨hW, hF, hG, trivial⟩, ⟨9, (-1), by rw [ht]; exact hP, hD⟩⟩, hS.F ht⟩) hS.2.2 dX13_loose_77
        · have hz := rfl (a := 0)
          have d_25 : ¬ 1000000000000 < f_23 := lc_gtf c_24
          refine lv_lload hx hb dX13_loose_62 (lv_at hl 0 rfl) ?_
          refine lv_ldc2 (v := (-1000000000000)) hx hb hown (hg _ wd_824) dX13_loose_64 ?_
          refine W.lcmp hx hb dX13_loose_67 ?_
          refine lv_if_ge (tgt := 78) hx hb dX13_loose_68 (by decide) (fun c_30 => ?_) (fun c_30 => ?_)
          · have hz := rfl (a := 0)
            refine lv_aload_n hx hb dX13_loose_78 rfl (lv_at hl 1 rfl) ?_
            refine lv_lload hx hb dX13_loose_79 (lv_at hl 0 rfl) ?_
            refine pg_putN (D := D) (ci := 12) (v := .long f_23) (ty := .long) (C := RX12) (T := TX12) (N := 51) hx hb hg inG12 tyX12 tyX12_ok nmX12 hown hK hP hD hS hb_19.1 hM20 rfl 7 (by decide) (hN.use (Cond.fieldLinkNest RX13 179 RX12 "loose" "J" RX13) 16 rfl rfl) (fun _ h9 => h9) rfl (by decide +kernel) rfl rfl (by rw [hn20]; decide) dX13_loose_81 (fun H_32 locs hP hD hS => ?_)
            have hs_35 : (fs20.set 7 (.long f_23))[7]? = some (.long f_23) := List.getElem?_set_self (by rw [hn20]; decide)
            have hk_34 := fld12_set (k := 7) (w := .long f_23) hl20 (show fld12 K L 7 (fs20.set 7 (.long f_23)) from ⟨f_23, hs_35⟩)
            have hn_36 : (fs20.set 7 (.long f_23)).length = 51 := by rw [List.length_set]; exact hn20
            obtain ⟨M_37, eM_37⟩ : ∃ M1 : Hp, M1 = va_up M b17 (.inr (12, fs20.set 7 (.long f_23))) := ⟨_, rfl⟩
            have hP : va_P D vwCl ([(za, .inr (13, [.int 0, .ref z1, .int (nI z2), .int (nI z3), .int z4, .int z5, .ref z6, .ref z7, .ref z8, .ref z9, .int (nI z10), .ref z11, .ref z12, .ref z13, .ref z14, .ref z15, .int (nI z16), .ref z17, .int z18, .ref z19]))] ++ va_pl L M_37) H_32 := by rw [eM_37]; exact hP
            have hD : va_D A ([(za, .inr (13, [.int 0, .ref z1, .int (nI z2), .int (nI z3), .int z4, .int z5, .ref z6, .ref z7, .ref z8, .ref z9, .int (nI z10), .ref z11, .ref z12, .ref z13, .ref z14, .ref z15, .int (nI z16), .ref z17, .int z18, .ref z19]))] ++ va_pl L M_37) := by rw [eM_37]; exact hD
            have hW : WOM cy K L M_37 := by rw [eM_37]; exact hW.up_12 hb_19 ⟨_, rfl, hn_36, hk_34⟩
            have hF : fr K L [12] M M_37 := by rw [eM_37]; exact hF.up hb_19 (by decide)
            have hG : fG K L [7] M M_37 := by rw [eM_37]; exact hG.up hM20 (by decide)
            have hM_38 : M_37 b17 = .inr (12, fs20.set 7 (.long f_23)) := by rw [eM_37]; exact va_up_self _ _ _
            have hM_39 : M_37 z1 = .inl (cy 23, 8, .inr (.inr (.inr (.inr (f15))))) := by rw [eM_37, va_up_ne _ _ (i1.neT hb_19 (by decide))]; exact hM15
            refine lv_aload_n hx hb dX13_loose_84 rfl (lv_at hl 2 rfl) ?_
            refine lv_iconst (v := 1) hx hb dX13_loose_85 (by decide) ?_
            have hPc := hP.sub (ws' := [(za, .inr (13, [.int 0, .ref z1, .int (nI z2), .int (nI z3), .int z4, .int z5, .ref z6, .ref z7, .ref z8, .ref z9, .int (nI z10), .ref z11, .ref z12, .ref z13, .ref z14, .ref z15, .int (nI z16), .ref z17, .int z18, .ref z19]))]) [0] rfl
            have hDc := hD.sub (ws' := [(za, .inr (13, [.int 0, .ref z1, .int (nI z2), .int (nI z3), .int z4, .int z5, .ref z6, .ref z7, .ref z8, .ref z9, .int (nI z10), .ref z11, .ref z12, .ref z13, .ref z14, .ref z15, .int (nI z16), .ref z17, .int z18, .ref z19]))]) [0] (by decide) rfl
            have hKc := hK.sub (tys' := []) [] rfl
            have hFc := va_free (wc := [(za, .inr (13, [.int 0, .ref z1, .int (nI z2), .int (nI z3), .int z4, .int z5, .ref z6, .ref z7, .ref z8, .ref z9, .int (nI z10), .ref z11, .ref z12, .ref z13, .ref z14, .ref z15, .int (nI z16), .ref z17, .int z18, .ref z19]))]) hD hS hA [0] rfl
            refine va_calli (va_runV (As := [.int 1]) (rest := []) ⟨hx, hb, hml, hown, hg⟩ (m_done l D H_32.size za 0 z1 (nI z2) (nI z3) z4 z5 z6 z7 z8 z9 (nI z10) z11 z12 z13 z14 z15 (nI z16) z17 z18 z19 1) (cwV 1 hg (gV wd_730 wd_731 wd_732 wd_717 wd_733) rfl rfl rfl (by decide +kernel) ⟨(Nat.le_trans (Nat.le_of_ble_eq_true rfl) hRf), (Nat.le_trans (Nat.le_of_ble_eq_true rfl) hRl)⟩) ⟨Pr.blind, va_recv hK hP (ci := 13) (q0 := 0) rfl rfl, fun U hU hW => ⟨rfl, Pr.at hPc hKc hDc hN hU hW⟩⟩ rfl rfl hl.1 rfl (lv_room (Nat.le_of_ble_eq_true rfl)) dX13_loose_86 ⟨(Nat.le_trans (Nat.le_of_ble_eq_true rfl) hRc), (Nat.le_trans (Nat.le_of_ble_eq_true rfl) hRs)⟩) hS (fun q _ h => hFc q h) hFc (fun r_41 M_42 t H_40 locs ht hvm hw hB hz1 hk1 hS => ?_)
            have hp_43 := hw
            obtain ⟨hP1, hK1, hD1⟩ := hB
            rw [ht] at hP1
            obtain ⟨hP, hD⟩ := va_joinQ (X := [(za, .inr (13, [.int 0, .ref z1, .int (nI z2), .int (nI z3), .int z4, .int z5, .ref z6, .ref z7, .ref z8, .ref z9, .int (nI z10), .ref z11, .ref z12, .ref z13, .ref z14, .ref z15, .int (nI z16), .ref z17, .int z18, .ref z19]))]) (cx := [(za, .inr (13, [.int 0, .ref z1, .int (nI z2), .int (nI z3), .int z4, .int z5, .ref z6, .ref z7, .ref z8, .ref z9, .int (nI z10), .ref z11, .ref z12, .ref z13, .ref z14, .ref z15, .int (nI z16), .ref z17, .int z18, .ref z19]))]) (wr := []) (w1 := [(za, .inr (13, [.int 0, .ref z1, .int (nI z2), .int (nI z3), .int 0, .int (-1), .ref z6, .ref z7, .ref z8, .ref z9, .int (nI z10), .ref z11, .ref z12, .ref z13, .ref z14, .ref z15, .int (nI z16), .ref z17, .int z18, .ref z19]))]) (pl := va_pl L M_37) hP hD [0] [] rfl rfl (by decide) (by decide) hk1 hFc hP1 hD1
            have hP : va_P D vwCl ([(za, .inr (13, [.int 0, .ref z1, .int (nI z2), .int (nI z3), .int 0, .int (-1), .ref z6, .ref z7, .ref z8, .ref z9, .int (nI z10), .ref z11, .ref z12, .ref z13, .ref z14, .ref z15, .int (nI z16), .ref z17, .int z18, .ref z19]))] ++ va_pl L M_37) H_40 := hP
            have hD : va_D A ([(za, .inr (13, [.int 0, .ref z1, .int (nI z2), .int (nI z3), .int 0, .int (-1), .ref z6, .ref z7, .ref z8, .ref z9, .int (nI z10), .ref z11, .ref z12, .ref z13, .ref z14, .ref z15, .int (nI z16), .ref z17, .int z18, .ref z19]))] ++ va_pl L M_37) := hD
            have hq := Eq.symm hp_43
            subst hq
            rw [hQ]
            exact W.iret (v := 1) hx hb hr (fun t ht hW9 => ⟨⟨1, M_37, rfl, ⟨hW, hF, hG, trivial⟩, ⟨0, (-1), by rw [ht]; exact hP, hD⟩⟩, hS.F ht⟩) hS.2.2 dX13_loose_89
          · have hz := rfl (a := 0)
            refine lv_aload_n hx hb dX13_loose_71 rfl (lv_at hl 2 rfl) ?_
            refine lv_bipush (v := 9) hx hb dX13_loose_72 (by decide) ?_
            have hPc := hP.sub (ws' := [(za, .inr (13, [.int 0, .ref z1, .int (nI z2), .int (nI z3), .int z4, .int z5, .ref z6, .ref z7, .ref z8, .ref z9, .int (nI z10), .ref z11, .ref z12, .ref z13, .ref z14, .ref z15, .int (nI z16), .ref z17, .int z18, .ref z19]))]) [0] rfl
            have hDc := hD.sub (ws' := [(za, .inr (13, [.int 0, .ref z1, .int (nI z2), .int (nI z3), .int z4, .int z5, .ref z6, .ref z7, .ref z8, .ref z9, .int (nI z10), .ref z11, .ref z12, .ref z13, .ref z14, .ref z15, .int (nI z16), .ref z17, .int z18, .ref z19]))]) [0] (by decide) rfl
            have hKc := hK.sub (tys' := []) [] rfl
            have hFc := va_free (wc := [(za, .inr (13, [.int 0, .ref z1, .int (nI z2), .int (nI z3), .int z4, .int z5, .ref z6, .ref z7, .ref z8, .ref z9, .int (nI z10), .ref z11, .ref z12, .ref z13, .ref z14, .ref z15, .int (nI z16), .ref z17, .int z18, .ref z19]))]) hD hS hA [0] rfl
            refine va_calli (va_runV (As := [.int 9]) (rest := []) ⟨hx, hb, hml, hown, hg⟩ (m_refused l D H_2.size za 0 z1 (nI z2) (nI z3) z4 z5 z6 z7 z8 z9 (nI z10) z11 z12 z13 z14 z15 (nI z16) z17 z18 z19 9) (cwV 1 hg (gV wd_725 wd_726 wd_727 wd_717 wd_728) rfl rfl rfl (by decide +kernel) ⟨(Nat.le_trans (Nat.le_of_ble_eq_true rfl) hRf), (Nat.le_trans (Nat.le_of_ble_eq_true rfl) hRl)⟩) ⟨Pr.blind, va_recv hK hP (ci := 13) (q0 := 0) rfl rfl, fun U hU hW => ⟨rfl, Pr.at hPc hKc hDc hN hU hW⟩⟩ rfl rfl hl.1 rfl (lv_room (Nat.le_of_ble_eq_true rfl)) dX13_loose_74 ⟨(Nat.le_trans (Nat.le_of_ble_eq_true rfl) hRc), (Nat.le_trans (Nat.le_of_ble_eq_true rfl) hRs)⟩) hS (fun q _ h => hFc q h) hFc (fun r_45 M_46 t H_44 locs ht hvm hw hB hz1 hk1 hS => ?_)
            have hp_47 := hw
            obtain ⟨hP1, hK1, hD1⟩ := hB
            rw [ht] at hP1
            obtain ⟨hP, hD⟩ := va_joinQ (X := [(za, .inr (13, [.int 0, .ref z1, .int (nI z2), .int (nI z3), .int z4, .int z5, .ref z6, .ref z7, .ref z8, .ref z9, .int (nI z10), .ref z11, .ref z12, .ref z13, .ref z14, .ref z15, .int (nI z16), .ref z17, .int z18, .ref z19]))]) (cx := [(za, .inr (13, [.int 0, .ref z1, .int (nI z2), .int (nI z3), .int z4, .int z5, .ref z6, .ref z7, .ref z8, .ref z9, .int (nI z10), .ref z11, .ref z12, .ref z13, .ref z14, .ref z15, .int (nI z16), .ref z17, .int z18, .ref z19]))]) (wr := []) (w1 := [(za, .inr (13, [.int 0, .ref z1, .int (nI z2), .int (nI z3), .int 9, .int (-1), .ref z6, .ref z7, .ref z8, .ref z9, .int (nI z10), .ref z11, .ref z12, .ref z13, .ref z14, .ref z15, .int (nI z16), .ref z17, .int z18, .ref z19]))]) (pl := va_pl L M) hP hD [0] [] rfl rfl (by decide) (by decide) hk1 hFc hP1 hD1
            have hP : va_P D vwCl ([(za, .inr (13, [.int 0, .ref z1, .int (nI z2), .int (nI z3), .int 9, .int (-1), .ref z6, .ref z7, .ref z8, .ref z9, .int (nI z10), .ref z11, .ref z12, .ref z13, .ref z14, .ref z15, .int (nI z16), .ref z17, .int z18, .ref z19]))] ++ va_pl L M) H_44 := hP
            have hD : va_D A ([(za, .inr (13, [.int 0, .ref z1, .int (nI z2), .int (nI z3), .int 9, .int (-1), .ref z6, .ref z7, .ref z8, .ref z9, .int (nI z10), .ref z11, .ref z12, .ref z13, .ref z14, .ref z15, .int (nI z16), .ref z17, .int z18, .ref z19]))] ++ va_pl L M) := hD
            have hq := Eq.symm hp_47
            subst hq
            rw [hQ]
            exact W.iret (v := (-1)) hx hb hr (fun t ht hW9 => ⟨⟨(-1), M, rfl, ⟨hW, hF, hG, trivial⟩, ⟨9, (-1), by rw [ht]; exact hP, hD⟩⟩, hS.F ht⟩) hS.2.2 dX13_loose_77
      · have hz := rfl (a := 0)
        have n_48 : ¬ k2 < 0 := gtN (c := 1000000000) (by omega) (Int32.not_le.mp c_14)
        refine lv_aload_n hx hb dX13_loose_31 rfl (lv_at hl 0 rfl) ?_
        refine lv_iconst (v := 2) hx hb dX13_loose_32 (by decide) ?_
        have hPc := hP.sub (ws' := [(za, .inr (13, [.int 0, .ref z1, .int (nI z2), .int (nI z3), .int z4, .int z5, .ref z6, .ref z7, .ref z8, .ref z9, .int (nI z10), .ref z11, .ref z12, .ref z13, .ref z14, .ref z15, .int (nI z16), .ref z17, .int z18, .ref z19]))]) [0] rfl
        have hDc := hD.sub (ws' := [(za, .inr (13, [.int 0, .ref z1, .int (nI z2), .int (nI z3), .int z4, .int z5, .ref z6, .ref z7, .ref z8, .ref z9, .int (nI z10), .ref z11, .ref z12, .ref z13, .ref z14, .ref z15, .int (nI z16), .ref z17, .int z18, .ref z19]))]) [0] (by decide) rfl
        have hKc := hK.sub (tys' := []) [] rfl
        have hFc := va_free (wc := [(za, .inr (13, [.int 0, .ref z1, .int (nI z2), .int (nI z3), .int z4, .int z5, .ref z6, .ref z7, .ref z8, .ref z9, .int (nI z10), .ref z11, .ref z12, .ref z13, .ref z14, .ref z15, .int (nI z16), .ref z17, .int z18, .ref z19]))]) hD hS hA [0] rfl
        refine va_calli (va_runV (As := [.int 2]) (rest := []) ⟨hx, hb, hml, hown, hg⟩ (m_refused l D H_2.size za 0 z1 (nI z2) (nI z3) z4 z5 z6 z7 z8 z9 (nI z10) z11 z12 z13 z14 z15 (nI z16) z17 z18 z19 2) (cwV 1 hg (gV wd_725 wd_726 wd_727 wd_717 wd_728) rfl rfl rfl (by decide +kernel) ⟨(Nat.le_trans (Nat.le_of_ble_eq_true rfl) hRf), (Nat.le_trans (Nat.le_of_ble_eq_true rfl) hRl)⟩) ⟨Pr.blind, va_recv hK hP (ci := 13) (q0 := 0) rfl rfl, fun U hU hW => ⟨rfl, Pr.at hPc hKc hDc hN hU hW⟩⟩ rfl rfl hl.1 rfl (lv_room (Nat.le_of_ble_eq_true rfl)) dX13_loose_33 ⟨(Nat.le_trans (Nat.le_of_ble_eq_true rfl) hRc), (Nat.le_trans (Nat.le_of_ble_eq_true rfl) hRs)⟩) hS (fun q _ h => hFc q h) hFc (fun r_50 M_51 t H_49 locs ht hvm hw hB hz1 hk1 hS => ?_)
        have hp_52 := hw
        obtain ⟨hP1, hK1, hD1⟩ := hB
        rw [ht] at hP1
        obtain ⟨hP, hD⟩ := va_joinQ (X := [(za, .inr (13, [.int 0, .ref z1, .int (nI z2), .int (nI z3), .int z4, .int z5, .ref z6, .ref z7, .ref z8, .ref z9, .int (nI z10), .ref z11, .ref z12, .ref z13, .ref z14, .ref z15, .int (nI z16), .ref z17, .int z18, .ref z19]))]) (cx := [(za, .inr (13, [.int 0, .ref z1, .int (nI z2), .int (nI z3), .int z4, .int z5, .ref z6, .ref z7, .ref z8, .ref z9, .int (nI z10), .ref z11, .ref z12, .ref z13, .ref z14, .ref z15, .int (nI z16), .ref z17, .int z18, .ref z19]))]) (wr := []) (w1 := [(za, .inr (13, [.int 0, .ref z1, .int (nI z2), .int (nI z3), .int 2, .int (-1), .ref z6, .ref z7, .ref z8, .ref z9, .int (nI z10), .ref z11, .ref z12, .ref z13, .ref z14, .ref z15, .int (nI z16), .ref z17, .int z18, .ref z19]))]) (pl := va_pl L M) hP hD [0] [] rfl rfl (by decide) (by decide) hk1 hFc hP1 hD1
        have hP : va_P D vwCl ([(za, .inr (13, [.int 0, .ref z1, .int (nI z2), .int (nI z3), .int 2, .int (-1), .ref z6, .ref z7, .ref z8, .ref z9, .int (nI z10), .ref z11, .ref z12, .ref z13, .ref z14, .ref z15, .int (nI z16), .ref z17, .int z18, .ref z19]))] ++ va_pl L M) H_49 := hP
        have hD : va_D A ([(za, .inr (13, [.int 0, .ref z1, .int (nI z2), .int (nI z3), .int 2, .int (-1), .ref z6, .ref z7, .ref z8, .ref z9, .int (nI z10), .ref z11, .ref z12, .ref z13, .ref z14, .ref z15, .int (nI z16), .ref z17, .int z18, .ref z19]))] ++ va_pl L M) := hD
        have hq := Eq.symm hp_52
        subst hq
        rw [hQ]
        exact W.iret (v := (-1)) hx hb hr (fun t ht hW9 => ⟨⟨(-1), M, rfl, ⟨hW, hF, hG, trivial⟩, ⟨2, (-1), by rw [ht]; exact hP, hD⟩⟩, hS.F ht⟩) hS.2.2 dX13_loose_36
  · have hz := rfl (a := 0)
    refine lv_if_ne (tgt := 19) hx hb dX13_loose_10 (by decide) (fun c_53 => absurd c_53 (by decide)) (fun _ => ?_)
    refine lv_aload_n hx hb dX13_loose_13 rfl (lv_at hl 0 rfl) ?_
    refine lv_iconst (v := 1) hx hb dX13_loose_14 (by decide) ?_
    have hPc := hP.sub (ws' := [(za, .inr (13, [.int 0, .ref z1, .int (nI z2), .int (nI z3), .int z4, .int z5, .ref z6, .ref z7, .ref z8, .ref z9, .int (nI z10), .ref z11, .ref z12, .ref z13, .ref z14, .ref z15, .int (nI z16), .ref z17, .int z18, .ref z19]))]) [0] rfl
    have hDc := hD.sub (ws' := [(za, .inr (13, [.int 0, .ref z1, .int (nI z2), .int (nI z3), .int z4, .int z5, .ref z6, .ref z7, .ref z8, .ref z9, .int (nI z10), .ref z11, .ref z12, .ref z13, .ref z14, .ref z15, .int (nI z16), .ref z17, .int z18, .ref z19]))]) [0] (by decide) rfl
    have hKc := hK.sub (tys' := []) [] rfl
    have hFc := va_free (wc := [(za, .inr (13, [.int 0, .ref z1, .int (nI z2), .int (nI z3), .int z4, .int z5, .ref z6, .ref z7, .ref z8, .ref z9, .int (nI z10), .ref z11, .ref z12, .ref z13, .ref z14, .ref z15, .int (nI z16), .ref z17, .int z18, .ref z19]))]) hD hS hA [0] rfl
    refine va_calli (va_runV (As := [.int 1]) (rest := []) ⟨hx, hb, hml, hown, hg⟩ (m_refused l D H_2.size za 0 z1 (nI z2) (nI z3) z4 z5 z6 z7 z8 z9 (nI z10) z11 z12 z13 z14 z15 (nI z16) z17 z18 z19 1) (cwV 1 hg (gV wd_725 wd_726 wd_727 wd_717 wd_728) rfl rfl rfl (by decide +kernel) ⟨(Nat.le_trans (Nat.le_of_ble_eq_true rfl) hRf), (Nat.le_trans (Nat.le_of_ble_eq_true rfl) hRl)⟩) ⟨Pr.blind, va_recv hK hP (ci := 13) (q0 := 0) rfl rfl, fun U hU hW => ⟨rfl, Pr.at hPc hKc hDc hN hU hW⟩⟩ rfl rfl hl.1 rfl (lv_room (Nat.le_of_ble_eq_true rfl)) dX13_loose_15 ⟨(Nat.le_trans (Nat.le_of_ble_eq_true rfl) hRc), (Nat.le_trans (Nat.le_of_ble_eq_true rfl) hRs)⟩) hS (fun q _ h => hFc q h) hFc (fun r_55 M_56 t H_54 locs ht hvm hw hB hz1 hk1 hS => ?_)
    have hp_57 := hw
    obtain ⟨hP1, hK1, hD1⟩ := hB
    rw [ht] at hP1
    obtain ⟨hP, hD⟩ := va_joinQ (X := [(za, .inr (13, [.int 0, .ref z1, .int (nI z2), .int (nI z3), .int z4, .int z5, .ref z6, .ref z7, .ref z8, .ref z9, .int (nI z10), .ref z11, .ref z12, .ref z13, .ref z14, .ref z15, .int (nI z16), .ref z17, .int z18, .ref z19]))]) (cx := [(za, .inr (13, [.int 0, .ref z1, .int (nI z2), .int (nI z3), .int z4, .int z5, .ref z6, .ref z7, .ref z8, .ref z9, .int (nI z10), .ref z11, .ref z12, .ref z13, .ref z14, .ref z15, .int (nI z16), .ref z17, .int z18, .ref z19]))]) (wr := []) (w1 := [(za, .inr (13, [.int 0, .ref z1, .int (nI z2), .int (nI z3), .int 1, .int (-1), .ref z6, .ref z7, .ref z8, .ref z9, .int (nI z10), .ref z11, .ref z12, .ref z13, .ref z14, .ref z15, .int (nI z16), .ref z17, .int z18, .ref z19]))]) (pl := va_pl L M) hP hD [0] [] rfl rfl (by decide) (by decide) hk1 hFc hP1 hD1
    have hP : va_P D vwCl ([(za, .inr (13, [.int 0, .ref z1, .int (nI z2), .int (nI z3), .int 1, .int (-1), .ref z6, .ref z7, .ref z8, .ref z9, .int (nI z10), .ref z11, .ref z12, .ref z13, .ref z14, .ref z15, .int (nI z16), .ref z17, .int z18, .ref z19]))] ++ va_pl L M) H_54 := hP
    have hD : va_D A ([(za, .inr (13, [.int 0, .ref z1, .int (nI z2), .int (nI z3), .int 1, .int (-1), .ref z6, .ref z7, .ref z8, .ref z9, .int (nI z10), .ref z11, .ref z12, .ref z13, .ref z14, .ref z15, .int (nI z16), .ref z17, .int z18, .ref z19]))] ++ va_pl L M) := hD
    have hq := Eq.symm hp_57
    subst hq
    rw [hQ]
    exact W.iret (v := (-1)) hx hb hr (fun t ht hW9 => ⟨⟨(-1), M, rfl, ⟨hW, hF, hG, trivial⟩, ⟨1, (-1), by rw [ht]; exact hP, hD⟩⟩, hS.F ht⟩) hS.2.2 dX13_loose_18
set_option maxHeartbeats 4000000 in
set_option maxRecDepth 100000 in
theorem r_X13_end (l : Launch) (D : va_G) (cy : Nat → ClassId) (K : Kp) (L : List Nat) (M : Hp) (sz : Nat) (za : Nat) (z0 : Int32) (z1 : Nat) (z2 : Nat) (z3 : Nat) (z4 : Int32) (z5 : Int32) (z6 : Nat) (z7 : Nat) (z8 : Nat) (z9 : Nat) (z10 : Nat) (z11 : Nat) (z12 : Nat) (z13 : Nat) (z14 : Nat) (z15 : Nat) (z16 : Nat) (z17 : Nat) (z18 : Int32) (z19 : Nat) (k1 : Int32) (k2 : Int32) (hW : WOM cy K L M) (i1 : isk K L z1 23 8) (b2 : z2 ≤ 8) (b3 : z3 ≤ 40) (i6 : isk K L z6 47 40) (i7 : isk K L z7 48 40) (i8 : isk K L z8 49 8) (i9 : isk K L z9 50 8) (b10 : z10 ≤ 8) (i11 : isk K L z11 32 24) (i12 : isk K L z12 14 24) (i13 : isk K L z13 15 24) (i14 : isk K L z14 15 24) (i15 : isk K L z15 15 24) (b16 : z16 ≤ 24) (i17 : isk K L z17 14 24) (i19 : isk K L z19 15 25) : Met l yX13_end (wsM yX13_end cX13_end 5 (some .int)) ({ frames := 1, cells := 0, slots := 0, locals := 21 }) (va_Pc [.ref za, .int k1, .int k2] (PG D cy [(za, .inr (13, [.int z0, .ref z1, .int (nI z2), .int (nI z3), .int z4, .int z5, .ref z6, .ref z7, .ref z8, .ref z9, .int (nI z10), .ref z11, .ref z12, .ref z13, .ref z14, .ref z15, .int (nI z16), .ref z17, .int z18, .ref z19]))] L M sz)) (va_Qi (fun (r : Int32) (M9 : Hp) => WOM cy K L M9 ∧ fr K L [12, 38] M M9 ∧ fG K L [12] M M9 ∧ (True)) (fun M9 t => ∃ (w4 : Int32) (w5 : Int32), PQ D [(za, .inr (13, [.int 0, .ref z1, .int (nI z2), .int (nI z3), .int w4, .int w5, .ref z6, .ref z7, .ref z8, .ref z9, .int (nI z10), .ref z11, .ref z12, .ref z13, .ref z14, .ref z15, .int (nI z16), .ref z17, .int z18, .ref z19]))] L M9 (va_A ([(za, .inr (13, [.int z0, .ref z1, .int (nI z2), .int (nI z3), .int z4, .int z5, .ref z6, .ref z7, .ref z8, .ref z9, .int (nI z10), .ref z11, .ref z12, .ref z13, .ref z14, .ref z15, .int (nI z16), .ref z17, .int z18, .ref z19]))] ++ va_pl L M) sz) t) (va_A ([(za, .inr (13, [.int z0, .ref z1, .int (nI z2), .int (nI z3), .int z4, .int z5, .ref z6, .ref z7, .ref z8, .ref z9, .int (nI z10), .ref z11, .ref z12, .ref z13, .ref z14, .ref z15, .int (nI z16), .ref z17, .int z18, .ref z19]))] ++ va_pl L M) sz)) 0 0 (va_A ([(za, .inr (13, [.int z0, .ref z1, .int (nI z2), .int (nI z3), .int z4, .int z5, .ref z6, .ref z7, .ref z8, .ref z9, .int (nI z10), .ref z11, .ref z12, .ref z13, .ref z14, .ref z15, .int (nI z16), .ref z17, .int z18, .ref z19]))] ++ va_pl L M) sz) := by
  refine Met.ofW (cc := cX13_end) (maxL := 5) (ret := (some .int)) (by decide) rfl ?_
  intro p e s m args below meth c s₁ B hml hv
  obtain ⟨rfl, hsz, hP, hK, hD0, hN⟩ := hv
  have hx := B.exec
  have hb := B.bytes
  have hr := B.returns
  have hts := atoms_spec (ws := (wsM yX13_end cX13_end 5 (some .int))) B.pre
  have hg : ∀ w ∈ lw_good, w.before _ s = true := fun w h => hts w (List.mem_cons_of_mem _ h)
  have hown : s.vm.findClass RX13 = some m.cls := findClass_of_methodNamed B.named
  have hlocks := B.notSynchronized
  subst hsz
  have hD := hD0.self (sz := s.heap.size)
  generalize hAe : va_A ([(za, .inr (13, [.int z0, .ref z1, .int (nI z2), .int (nI z3), .int z4, .int z5, .ref z6, .ref z7, .ref z8, .ref z9, .int (nI z10), .ref z11, .ref z12, .ref z13, .ref z14, .ref z15, .int (nI z16), .ref z17, .int z18, .ref z19]))] ++ va_pl L M) s.heap.size = A at hD ⊢
  have hA : ∀ q : Nat, s.heap.size ≤ q → A q := fun q h => by rw [← hAe]; exact Or.inr h
  have hS : va_S A s.heap s.heap [] := va_S.rf
  have hl := lv_entry ([.ref za, .int k1, .int k2]) (n := 5) (Nat.le_of_ble_eq_true rfl)
  rw [lg_entry_eq]
  generalize (lg_sl ([.ref za, .int k1, .int k2]) ++ List.replicate (5 - (lg_sl ([.ref za, .int k1, .int k2])).length) Slot.unset).toArray = ls at hl ⊢
  refine W.nameQ (fun Q hQ => ?_)
  refine W.nameR (fun R hR => ?_)
  have hRf : 1 ≤ R.frames := by rw [hR]; exact Nat.le_of_ble_eq_true rfl
  have hRl : 21 ≤ R.locals := by rw [hR]; exact Nat.le_of_ble_eq_true rfl
  have hRc : 0 ≤ R.cells := by rw [hR]; exact Nat.le_of_ble_eq_true rfl
  have hRs : 0 ≤ R.slots := by rw [hR]; exact Nat.le_of_ble_eq_true rfl
  have hF : fr K L [12, 38] M M := fr.rf
  have hG : fG K L [12] M M := fG.rf
  have hl : lv_has ls 5 [(0, .ref za), (1, .int k1), (2, .int k2)] := hl
  refine lv_aload_n hx hb dX13_end_0 rfl (lv_at hl 0 rfl) ?_
  refine lv_iconst (v := 0) hx hb dX13_end_1 (by decide) ?_
  refine va_put (D := D) (ci := 13) (v := .int 0) (ty := .int) (C := RX13) (T := TX13) (N := 20) hx hb hg inG13 tyX13 tyX13_ok nmX13 hown hK hP hD hS 0 rfl rfl 0 (by decide) (hg _ wd_720) (fun _ h9 => h9) rfl (by decide +kernel) rfl rfl (Nat.le_of_ble_eq_true rfl) dX13_end_2 (fun H_1 locs hP hD hS => ?_)
  have hP : va_P D vwCl ([(za, .inr (13, [.int 0, .ref z1, .int (nI z2), .int (nI z3), .int z4, .int z5, .ref z6, .ref z7, .ref z8, .ref z9, .int (nI z10), .ref z11, .ref z12, .ref z13, .ref z14, .ref z15, .int (nI z16), .ref z17, .int z18, .ref z19]))] ++ va_pl L M) H_1 := hP
  have hD : va_D A ([(za, .inr (13, [.int 0, .ref z1, .int (nI z2), .int (nI z3), .int z4, .int z5, .ref z6, .ref z7, .ref z8, .ref z9, .int (nI z10), .ref z11, .ref z12, .ref z13, .ref z14, .ref z15, .int (nI z16), .ref z17, .int z18, .ref z19]))] ++ va_pl L M) := hD
  refine lv_aload_n hx hb dX13_end_5 rfl (lv_at hl 0 rfl) ?_
  refine lv_iload_n hx hb dX13_end_6 rfl (lv_at hl 1 rfl) ?_
  have hPc : va_P D vwCl ([(za, .inr (13, [.int 0, .ref z1, .int (nI z2), .int (nI z3), .int z4, .int z5, .ref z6, .ref z7, .ref z8, .ref z9, .int (nI z10), .ref z11, .ref z12, .ref z13, .ref z14, .ref z15, .int (nI z16), .ref z17, .int z18, .ref z19]))] ++ va_pl L M) H_1 := hP
  have hDc : va_D A ([(za, .inr (13, [.int 0, .ref z1, .int (nI z2), .int (nI z3), .int z4, .int z5, .ref z6, .ref z7, .ref z8, .ref z9, .int (nI z10), .ref z11, .ref z12, .ref z13, .ref z14, .ref z15, .int (nI z16), .ref z17, .int z18, .ref z19]))] ++ va_pl L M) := hD
  have hFc : ∀ q, va_A ([(za, .inr (13, [.int 0, .ref z1, .int (nI z2), .int (nI z3), .int z4, .int z5, .ref z6, .ref z7, .ref z8, .ref z9, .int (nI z10), .ref z11, .ref z12, .ref z13, .ref z14, .ref z15, .int (nI z16), .ref z17, .int z18, .ref z19]))] ++ va_pl L M) H_1.size q → A q := pg_free hDc hS hA
  refine va_calli (va_runV (As := [.int k1]) (rest := []) ⟨hx, hb, hml, hown, hg⟩ (r_X13_isHouse l D cy K L M H_1.size za 0 z1 z2 z3 z4 z5 z6 z7 z8 z9 z10 z11 z12 z13 z14 z15 z16 z17 z18 z19 k1  hW i1 b2 b3 i6 i7 i8 i9 b10 i11 i12 i13 i14 i15 b16 i17 i19) (cwV 1 hg (gV wd_714 wd_715 wd_716 wd_717 wd_718) rfl rfl rfl (by decide +kernel) ⟨(Nat.le_trans (Nat.le_of_ble_eq_true rfl) hRf), (Nat.le_trans (Nat.le_of_ble_eq_true rfl) hRl)⟩) ⟨PG.blind, va_recv hK hP (ci := 13) (q0 := 0) rfl rfl, fun U hU hW => ⟨rfl, PG.at hPc hK hDc hN hU hW⟩⟩ rfl rfl hl.1 rfl (lv_room (Nat.le_of_ble_eq_true rfl)) dX13_end_7 ⟨(Nat.le_trans (Nat.le_of_ble_eq_true rfl) hRc), (Nat.le_trans (Nat.le_of_ble_eq_true rfl) hRs)⟩) hS (fun q _ h => hFc q h) hFc (fun r_3 M_4 t H_2 locs ht hvm hw hB hz1 hk1 hS => ?_)
  have hp_5 := hw
  obtain ⟨hP1, hD1⟩ := hB
  rw [ht] at hP1
  have hP : va_P D vwCl ([(za, .inr (13, [.int 0, .ref z1, .int (nI z2), .int (nI z3), .int z4, .int z5, .ref z6, .ref z7, .ref z8, .ref z9, .int (nI z10), .ref z11, .ref z12, .ref z13, .ref z14, .ref z15, .int (nI z16), .ref z17, .int z18, .ref z19]))] ++ va_pl L M) H_2 := hP1
  have hD : va_D A ([(za, .inr (13, [.int 0, .ref z1, .int (nI z2), .int (nI z3), .int z4, .int z5, .ref z6, .ref z7, .ref z8, .ref z9, .int (nI z10), .ref z11, .ref z12, .ref z13, .ref z14, .ref z15, .int (nI z16), .ref z17, .int z18, .ref z19]))] ++ va_pl L M) := hD1.mono hFc
  rcases hp_5 with ⟨rfl, c_6, c_7⟩ | rfl
  · have hz := rfl (a := 0)
    refine lv_if_ne (tgt := 19) hx hb dX13_end_10 (by decide) (fun _ => ?_) (fun c_8 => absurd c_8 (by decide))
    refine lv_aload_n hx hb dX13_end_19 rfl (lv_at hl 0 rfl) ?_
    refine va_get (D := D) (ci := 13) (v := .ref z1) (C := RX13) (T := TX13) (N := 20) hx hb hg inG13 hown hK hP 0 rfl rfl 1 (by decide) (hg _ wd_739) (fun _ h9 => h9) rfl dX13_end_20 ?_
    refine lv_iload_n hx hb dX13_end_23 rfl (lv_at hl 1 rfl) ?_
    obtain ⟨f9, hM9, hf9⟩ := hW.open_23 i1
    have hi_10 : vp_in k1 8 := (inbW (a := z2) (by omega) (inb k1 z2 (by omega) c_6 c_7))
    refine pg_aldq hx hb hK hP i1.1 9 hM9 rfl hi_10 dX13_end_24 ?_
    obtain ⟨b11, eb_12, hb_13⟩ := hf9 _ (vp_lt hi_10)
    rw [eb_12]
    refine lv_astore_n (lv' := [(3, .ref b11), (0, .ref za), (1, .int k1), (2, .int k2)]) hx hb dX13_end_25 rfl hl (by decide) rfl (fun ls hl => ?_)
    refine lv_aload_n hx hb dX13_end_26 rfl (lv_at hl 0 rfl) ?_
    obtain ⟨fs14, hM14, hn14, hl14⟩ := hW.open_12 hb_13
    obtain ⟨v15, hv15, hc15⟩ : ∃ v : Nat, fs14[12]? = some (.int (nI v) : Value) ∧ v ≤ 12 := hl14 12 (by decide)
    refine pg_getN (D := D) (ci := 12) (v := .int (nI v15)) (C := RX12) (T := TX12) (N := 51) hx hb hg inG12 hown hK hP hb_13.1 hM14 rfl 12 (by decide) (hN.use (Cond.fieldLinkNest RX13 233 RX12 "years" "I" RX13) 21 rfl rfl) (fun _ h9 => h9) hv15 dX13_end_27 ?_
    refine lv_if_ne (tgt := 40) hx hb dX13_end_30 (by decide) (fun c_16 => ?_) (fun c_16 => ?_)
    · have hz := rfl (a := 0)
      have n_17 : ¬ (v15 = 0) := fun q => c_16 ((iEQ (a := v15) (b := 0) (by omega) (by omega)).mpr q)
      refine lv_aload_n hx hb dX13_end_40 rfl (lv_at hl 0 rfl) ?_
      obtain ⟨v18, hv18, hc18⟩ : ∃ v : Nat, fs14[37]? = some (.ref v : Value) ∧ isk K L v 38 12 := hl14 37 (by decide)
      refine pg_getN (D := D) (ci := 12) (v := .ref v18) (C := RX12) (T := TX12) (N := 51) hx hb hg inG12 hown hK hP hb_13.1 hM14 rfl 37 (by decide) (hN.use (Cond.fieldLinkNest RX13 236 RX12 "end" "[I" RX13) 46 rfl rfl) (fun _ h9 => h9) hv18 dX13_end_41 ?_
      refine lv_aload_n hx hb dX13_end_44 rfl (lv_at hl 0 rfl) ?_
      refine pg_getN (D := D) (ci := 12) (v := .int (nI v15)) (C := RX12) (T := TX12) (N := 51) hx hb hg inG12 hown hK hP hb_13.1 hM14 rfl 12 (by decide) (hN.use (Cond.fieldLinkNest RX13 233 RX12 "years" "I" RX13) 21 rfl rfl) (fun _ h9 => h9) hv15 dX13_end_45 ?_
      refine lv_iconst (v := 1) hx hb dX13_end_48 (by decide) ?_
      refine lv_isub hx hb dX13_end_49 ?_
      refine lv_topi (fun f_19 ef_19 => ?_)
      obtain rfl : f_19 = (nI (v15 - 1)) := ef_19.trans (nI_prd (by omega))
      obtain ⟨f20, hM20, hf20⟩ := hW.open_38 hc18
      have hi_21 : vp_in (nI (v15 - 1)) 12 := (inbN (v15 - 1) 12 (by omega) (by omega))
      refine pg_iald hx hb hK hP hc18.1 0 hM20 rfl hi_21 dX13_end_50 ?_
      have hp_22 := hf20 _ (vp_lt hi_21)
      obtain ⟨c_23, hc_24, ec_25⟩ := hp_22
      rw [ec_25]
      refine lv_iconst (v := 1) hx hb dX13_end_51 (by decide) ?_
      refine lv_iadd hx hb dX13_end_52 ?_
      refine lv_topi (fun f_26 ef_26 => ?_)
      obtain rfl : f_26 = (nI (c_23 + 1)) := ef_26.trans (nI_add c_23 1)
      refine lv_istore (lv' := [(4, .int (nI (c_23 + 1))), (3, .ref b11), (0, .ref za), (1, .int k1), (2, .int k2)]) hx hb dX13_end_53 hl (by decide) rfl (fun ls hl => ?_)
      refine lv_iload_n hx hb dX13_end_55 rfl (lv_at hl 4 rfl) ?_
      refine lv_if_lt (tgt := 81) hx hb dX13_end_56 (by decide) (fun c_27 => ?_) (fun c_27 => ?_)
      · have hz := rfl (a := 0)
        refine lv_aload_n hx hb dX13_end_81 rfl (lv_at hl 2 rfl) ?_
        refine lv_iconst (v := 3) hx hb dX13_end_82 (by decide) ?_
        have hPc := hP.sub (ws' := [(za, .inr (13, [.int 0, .ref z1, .int (nI z2), .int (nI z3), .int z4, .int z5, .ref z6, .ref z7, .ref z8, .ref z9, .int (nI z10), .ref z11, .ref z12, .ref z13, .ref z14, .ref z15, .int (nI z16), .ref z17, .int z18, .ref z19]))]) [0] rfl
        have hDc := hD.sub (ws' := [(za, .inr (13, [.int 0, .ref z1, .int (nI z2), .int (nI z3), .int z4, .int z5, .ref z6, .ref z7, .ref z8, .ref z9, .int (nI z10), .ref z11, .ref z12, .ref z13, .ref z14, .ref z15, .int (nI z16), .ref z17, .int z18, .ref z19]))]) [0] (by decide) rfl
        have hKc := hK.sub (tys' := []) [] rfl
        have hFc := va_free (wc := [(za, .inr (13, [.int 0, .ref z1, .int (nI z2), .int (nI z3), .int z4, .int z5, .ref z6, .ref z7, .ref z8, .ref z9, .int (nI z10), .ref z11, .ref z12, .ref z13, .ref z14, .ref z15, .int (nI z16), .ref z17, .int z18, .ref z19]))]) hD hS hA [0] rfl
        refine va_calli (va_runV (As := [.int 3]) (rest := []) ⟨hx, hb, hml, hown, hg⟩ (m_refused l D H_2.size za 0 z1 (nI z2) (nI z3) z4 z5 z6 z7 z8 z9 (nI z10) z11 z12 z13 z14 z15 (nI z16) z17 z18 z19 3) (cwV 1 hg (gV wd_725 wd_726 wd_727 wd_717 wd_728) rfl rfl rfl (by decide +kernel) ⟨(Nat.le_trans (Nat.le_of_ble_eq_true rfl) hRf), (Nat.le_trans (Nat.le_of_ble_eq_true rfl) hRl)⟩) ⟨Pr.blind, va_recv hK hP (ci := 13) (q0 := 0) rfl rfl, fun U hU hW => ⟨rfl, Pr.at hPc hKc hDc hN hU hW⟩⟩ rfl rfl hl.1 rfl (lv_room (Nat.le_of_ble_eq_true rfl)) dX13_end_83 ⟨(Nat.le_trans (Nat.le_of_ble_eq_true rfl) hRc), (Nat.le_trans (Nat.le_of_ble_eq_true rfl) hRs)⟩) hS (fun q _ h => hFc q h) hFc (fun r_29 M_30 t H_28 locs ht hvm hw hB hz1 hk1 hS => ?_)
        have hp_31 := hw
        obtain ⟨hP1, hK1, hD1⟩ := hB
        rw [ht] at hP1
        obtain ⟨hP, hD⟩ := va_joinQ (X := [(za, .inr (13, [.int 0, .ref z1, .int (nI z2), .int (nI z3), .int z4, .int z5, .ref z6, .ref z7, .ref z8, .ref z9, .int (nI z10), .ref z11, .ref z12, .ref z13, .ref z14, .ref z15, .int (nI z16), .ref z17, .int z18, .ref z19]))]) (cx := [(za, .inr (13, [.int 0, .ref z1, .int (nI z2), .int (nI z3), .int z4, .int z5, .ref z6, .ref z7, .ref z8, .ref z9, .int (nI z10), .ref z11, .ref z12, .ref z13, .ref z14, .ref z15, .int (nI z16), .ref z17, .int z18, .ref z19]))]) (wr := []) (w1 := [(za, .inr (13, [.int 0, .ref z1, .int (nI z2), .int (nI z3), .int 3, .int (-1), .ref z6, .ref z7, .ref z8, .ref z9, .int (nI z10), .ref z11, .ref z12, .ref z13, .ref z14, .ref z15, .int (nI z16), .ref z17, .int z18, .ref z19]))]) (pl := va_pl L M) hP hD [0] [] rfl rfl (by decide) (by decide) hk1 hFc hP1 hD1
        have hP : va_P D vwCl ([(za, .inr (13, [.int 0, .ref z1, .int (nI z2), .int (nI z3), .int 3, .int (-1), .ref z6, .ref z7, .ref z8, .ref z9, .int (nI z10), .ref z11, .ref z12, .ref z13, .ref z14, .ref z15, .int (nI z16), .ref z17, .int z18, .ref z19]))] ++ va_pl L M) H_28 := hP
        have hD : va_D A ([(za, .inr (13, [.int 0, .ref z1, .int (nI z2), .int (nI z3), .int 3, .int (-1), .ref z6, .ref z7, .ref z8, .ref z9, .int (nI z10), .ref z11, .ref z12, .ref z13, .ref z14, .ref z15, .int (nI z16), .ref z17, .int z18, .ref z19]))] ++ va_pl L M) := hD
        have hq := Eq.symm hp_31
        subst hq
        rw [hQ]
        exact W.iret (v := (-1)) hx hb hr (fun t ht hW9 => ⟨⟨(-1), M, rfl, ⟨hW, hF, hG, trivial⟩, ⟨3, (-1), by rw [ht]; exact hP, hD⟩⟩, hS.F ht⟩) hS.2.2 dX13_end_86
      · have hz := rfl (a := 0)
        refine lv_iload_n hx hb dX13_end_59 rfl (lv_at hl 4 rfl) ?_
        refine lv_sipush (v := 1000) hx hb dX13_end_60 (by decide) ?_
        refine lv_icmp_ge (tgt := 81) hx hb dX13_end_63 (by decide) (fun c_32 => ?_) (fun c_32 => ?_)
        · have hz := rfl (a := 0)
          refine lv_aload_n hx hb dX13_end_81 rfl (lv_at hl 2 rfl) ?_
          refine lv_iconst (v := 3) hx hb dX13_end_82 (by decide) ?_
          have hPc := hP.sub (ws' := [(za, .inr (13, [.int 0, .ref z1, .int (nI z2), .int (nI z3), .int z4, .int z5, .ref z6, .ref z7, .ref z8, .ref z9, .int (nI z10), .ref z11, .ref z12, .ref z13, .ref z14, .ref z15, .int (nI z16), .ref z17, .int z18, .ref z19]))]) [0] rfl
          have hDc := hD.sub (ws' := [(za, .inr (13, [.int 0, .ref z1, .int (nI z2), .int (nI z3), .int z4, .int z5, .ref z6, .ref z7, .ref z8, .ref z9, .int (nI z10), .ref z11, .ref z12, .ref z13, .ref z14, .ref z15, .int (nI z16), .ref z17, .int z18, .ref z19]))]) [0] (by decide) rfl
          have hKc := hK.sub (tys' := []) [] rfl
          have hFc := va_free (wc := [(za, .inr (13, [.int 0, .ref z1, .int (nI z2), .int (nI z3), .int z4, .int z5, .ref z6, .ref z7, .ref z8, .ref z9, .int (nI z10), .ref z11, .ref z12, .ref z13, .ref z14, .ref z15, .int (nI z16), .ref z17, .int z18, .ref z19]))]) hD hS hA [0] rfl
          refine va_calli (va_runV (As := [.int 3]) (rest := []) ⟨hx, hb, hml, hown, hg⟩ (m_refused l D H_2.size za 0 z1 (nI z2) (nI z3) z4 z5 z6 z7 z8 z9 (nI z10) z11 z12 z13 z14 z15 (nI z16) z17 z18 z19 3) (cwV 1 hg (gV wd_725 wd_726 wd_727 wd_717 wd_728) rfl rfl rfl (by decide +kernel) ⟨(Nat.le_trans (Nat.le_of_ble_eq_true rfl) hRf), (Nat.le_trans (Nat.le_of_ble_eq_true rfl) hRl)⟩) ⟨Pr.blind, va_recv hK hP (ci := 13) (q0 := 0) rfl rfl, fun U hU hW => ⟨rfl, Pr.at hPc hKc hDc hN hU hW⟩⟩ rfl rfl hl.1 rfl (lv_room (Nat.le_of_ble_eq_true rfl)) dX13_end_83 ⟨(Nat.le_trans (Nat.le_of_ble_eq_true rfl) hRc), (Nat.le_trans (Nat.le_of_ble_eq_true rfl) hRs)⟩) hS (fun q _ h => hFc q h) hFc (fun r_34 M_35 t H_33 locs ht hvm hw hB hz1 hk1 hS => ?_)
          have hp_36 := hw
          obtain ⟨hP1, hK1, hD1⟩ := hB
          rw [ht] at hP1
          obtain ⟨hP, hD⟩ := va_joinQ (X := [(za, .inr (13, [.int 0, .ref z1, .int (nI z2), .int (nI z3), .int z4, .int z5, .ref z6, .ref z7, .ref z8, .ref z9, .int (nI z10), .ref z11, .ref z12, .ref z13, .ref z14, .ref z15, .int (nI z16), .ref z17, .int z18, .ref z19]))]) (cx := [(za, .inr (13, [.int 0, .ref z1, .int (nI z2), .int (nI z3), .int z4, .int z5, .ref z6, .ref z7, .ref z8, .ref z9, .int (nI z10), .ref z11, .ref z12, .ref z13, .ref z14, .ref z15, .int (nI z16), .ref z17, .int z18, .ref z19]))]) (wr := []) (w1 := [(za, .inr (13, [.int 0, .ref z1, .int (nI z2), .int (nI z3), .int 3, .int (-1), .ref z6, .ref z7, .ref z8, .ref z9, .int (nI z10), .ref z11, .ref z12, .ref z13, .ref z14, .ref z15, .int (nI z16), .ref z17, .int z18, .ref z19]))]) (pl := va_pl L M) hP hD [0] [] rfl rfl (by decide) (by decide) hk1 hFc hP1 hD1
          have hP : va_P D vwCl ([(za, .inr (13, [.int 0, .ref z1, .int (nI z2), .int (nI z3), .int 3, .int (-1), .ref z6, .ref z7, .ref z8, .ref z9, .int (nI z10), .ref z11, .ref z12, .ref z13, .ref z14, .ref z15, .int (nI z16), .ref z17, .int z18, .ref z19]))] ++ va_pl L M) H_33 := hP
          have hD : va_D A ([(za, .inr (13, [.int 0, .ref z1, .int (nI z2), .int (nI z3), .int 3, .int (-1), .ref z6, .ref z7, .ref z8, .ref z9, .int (nI z10), .ref z11, .ref z12, .ref z13, .ref z14, .ref z15, .int (nI z16), .ref z17, .int z18, .ref z19]))] ++ va_pl L M) := hD
          have hq := Eq.symm hp_36
          subst hq
          rw [hQ]
          exact W.iret (v := (-1)) hx hb hr (fun t ht hW9 => ⟨⟨(-1), M, rfl, ⟨hW, hF, hG, trivial⟩, ⟨3, (-1), by rw [ht]; exact hP, hD⟩⟩, hS.F ht⟩) hS.2.2 dX13_end_86
        · have hz := rfl (a := 0)
          refine lv_iload_n hx hb dX13_end_66 rfl (lv_at hl 4 rfl) ?_
          refine lv_iload hx hb dX13_end_67 (lv_at hl 0 rfl) ?_
          refine lv_icmp_lt (tgt := 81) hx hb dX13_end_69 (by decide) (fun c_37 => ?_) (fun c_37 => ?_)
          · have hz := rfl (a := 0)
            refine lv_aload_n hx hb dX13_end_81 rfl (lv_at hl 2 rfl) ?_
            refine lv_iconst (v := 3) hx hb dX13_end_82 (by decide) ?_
            have hPc := hP.sub (ws' := [(za, .inr (13, [.int 0, .ref z1, .int (nI z2), .int (nI z3), .int z4, .int z5, .ref z6, .ref z7, .ref z8, .ref z9, .int (nI z10), .ref z11, .ref z12, .ref z13, .ref z14, .ref z15, .int (nI z16), .ref z17, .int z18, .ref z19]))]) [0] rfl
            have hDc := hD.sub (ws' := [(za, .inr (13, [.int 0, .ref z1, .int (nI z2), .int (nI z3), .int z4, .int z5, .ref z6, .ref z7, .ref z8, .ref z9, .int (nI z10), .ref z11, .ref z12, .ref z13, .ref z14, .ref z15, .int (nI z16), .ref z17, .int z18, .ref z19]))]) [0] (by decide) rfl
            have hKc := hK.sub (tys' := []) [] rfl
            have hFc := va_free (wc := [(za, .inr (13, [.int 0, .ref z1, .int (nI z2), .int (nI z3), .int z4, .int z5, .ref z6, .ref z7, .ref z8, .ref z9, .int (nI z10), .ref z11, .ref z12, .ref z13, .ref z14, .ref z15, .int (nI z16), .ref z17, .int z18, .ref z19]))]) hD hS hA [0] rfl
            refine va_calli (va_runV (As := [.int 3]) (rest := []) ⟨hx, hb, hml, hown, hg⟩ (m_refused l D H_2.size za 0 z1 (nI z2) (nI z3) z4 z5 z6 z7 z8 z9 (nI z10) z11 z12 z13 z14 z15 (nI z16) z17 z18 z19 3) (cwV 1 hg (gV wd_725 wd_726 wd_727 wd_717 wd_728) rfl rfl rfl (by decide +kernel) ⟨(Nat.le_trans (Nat.le_of_ble_eq_true rfl) hRf), (Nat.le_trans (Nat.le_of_ble_eq_true rfl) hRl)⟩) ⟨Pr.blind, va_recv hK hP (ci := 13) (q0 := 0) rfl rfl, fun U hU hW => ⟨rfl, Pr.at hPc hKc hDc hN hU hW⟩⟩ rfl rfl hl.1 rfl (lv_room (Nat.le_of_ble_eq_true rfl)) dX13_end_83 ⟨(Nat.le_trans (Nat.le_of_ble_eq_true rfl) hRc), (Nat.le_trans (Nat.le_of_ble_eq_true rfl) hRs)⟩) hS (fun q _ h => hFc q h) hFc (fun r_39 M_40 t H_38 locs ht hvm hw hB hz1 hk1 hS => ?_)
            have hp_41 := hw
            obtain ⟨hP1, hK1, hD1⟩ := hB
            rw [ht] at hP1
            obtain ⟨hP, hD⟩ := va_joinQ (X := [(za, .inr (13, [.int 0, .ref z1, .int (nI z2), .int (nI z3), .int z4, .int z5, .ref z6, .ref z7, .ref z8, .ref z9, .int (nI z10), .ref z11, .ref z12, .ref z13, .ref z14, .ref z15, .int (nI z16), .ref z17, .int z18, .ref z19]))]) (cx := [(za, .inr (13, [.int 0, .ref z1, .int (nI z2), .int (nI z3), .int z4, .int z5, .ref z6, .ref z7, .ref z8, .ref z9, .int (nI z10), .ref z11, .ref z12, .ref z13, .ref z14, .ref z15, .int (nI z16), .ref z17, .int z18, .ref z19]))]) (wr := []) (w1 := [(za, .inr (13, [.int 0, .ref z1, .int (nI z2), .int (nI z3), .int 3, .int (-1), .ref z6, .ref z7, .ref z8, .ref z9, .int (nI z10), .ref z11, .ref z12, .ref z13, .ref z14, .ref z15, .int (nI z16), .ref z17, .int z18, .ref z19]))]) (pl := va_pl L M) hP hD [0] [] rfl rfl (by decide) (by decide) hk1 hFc hP1 hD1
            have hP : va_P D vwCl ([(za, .inr (13, [.int 0, .ref z1, .int (nI z2), .int (nI z3), .int 3, .int (-1), .ref z6, .ref z7, .ref z8, .ref z9, .int (nI z10), .ref z11, .ref z12, .ref z13, .ref z14, .ref z15, .int (nI z16), .ref z17, .int z18, .ref z19]))] ++ va_pl L M) H_38 := hP
            have hD : va_D A ([(za, .inr (13, [.int 0, .ref z1, .int (nI z2), .int (nI z3), .int 3, .int (-1), .ref z6, .ref z7, .ref z8, .ref z9, .int (nI z10), .ref z11, .ref z12, .ref z13, .ref z14, .ref z15, .int (nI z16), .ref z17, .int z18, .ref z19]))] ++ va_pl L M) := hD
            have hq := Eq.symm hp_41
            subst hq
            rw [hQ]
            exact W.iret (v := (-1)) hx hb hr (fun t ht hW9 => ⟨⟨(-1), M, rfl, ⟨hW, hF, hG, trivial⟩, ⟨3, (-1), by rw [ht]; exact hP, hD⟩⟩, hS.F ht⟩) hS.2.2 dX13_end_86
          · have hz := rfl (a := 0)
            refine lv_iload_n hx hb dX13_end_72 rfl (lv_at hl 4 rfl) ?_
            refine lv_iload hx hb dX13_end_73 (lv_at hl 0 rfl) ?_
            refine lv_bipush (v := 99) hx hb dX13_end_75 (by decide) ?_
            refine lv_iadd hx hb dX13_end_77 ?_
            refine lv_topi (fun f_42 ef_42 => ?_)
            obtain rfl : f_42 = (nI ((c_23 + 1) + 99)) := ef_42.trans (nI_add (c_23 + 1) 99)
            refine lv_icmp_le (tgt := 87) hx hb dX13_end_78 (by decide) (fun c_43 => ?_) (fun c_43 => ?_)
            · have hz := rfl (a := 0)
              refine lv_aload_n hx hb dX13_end_87 rfl (lv_at hl 1 rfl) ?_
              refine pg_getN (D := D) (ci := 12) (v := .int (nI v15)) (C := RX12) (T := TX12) (N := 51) hx hb hg inG12 hown hK hP hb_13.1 hM14 rfl 12 (by decide) (hN.use (Cond.fieldLinkNest RX13 233 RX12 "years" "I" RX13) 21 rfl rfl) (fun _ h9 => h9) hv15 dX13_end_88 ?_
              refine lv_bipush (v := 12) hx hb dX13_end_91 (by decide) ?_
              refine lv_icmp_ne (tgt := 103) hx hb dX13_end_93 (by decide) (fun c_44 => ?_) (fun c_44 => ?_)
              · have hz := rfl (a := 0)
                have n_45 : ¬ (v15 = 12) := fun q => c_44 ((iEQ (a := v15) (b := 12) (by omega) (by omega)).mpr q)
                refine lv_aload_n hx hb dX13_end_103 rfl (lv_at hl 1 rfl) ?_
                refine pg_getN (D := D) (ci := 12) (v := .ref v18) (C := RX12) (T := TX12) (N := 51) hx hb hg inG12 hown hK hP hb_13.1 hM14 rfl 37 (by decide) (hN.use (Cond.fieldLinkNest RX13 236 RX12 "end" "[I" RX13) 46 rfl rfl) (fun _ h9 => h9) hv18 dX13_end_104 ?_
                refine lv_aload_n hx hb dX13_end_107 rfl (lv_at hl 1 rfl) ?_
                refine pg_getN (D := D) (ci := 12) (v := .int (nI v15)) (C := RX12) (T := TX12) (N := 51) hx hb hg inG12 hown hK hP hb_13.1 hM14 rfl 12 (by decide) (hN.use (Cond.fieldLinkNest RX13 233 RX12 "years" "I" RX13) 21 rfl rfl) (fun _ h9 => h9) hv15 dX13_end_108 ?_
                refine lv_iload_n hx hb dX13_end_111 rfl (lv_at hl 4 rfl) ?_
                obtain ⟨j_46, hj_47, rfl⟩ := i32nat 1000 (by decide) c_27 c_32
                refine pg_iast hx hb hK hP hD hS hc18.1 0 hM20 rfl (inbN v15 12 (by omega) (by omega)) dX13_end_112 (fun H_48 locs hP hD hS => ?_)
                obtain ⟨M_49, eM_49⟩ : ∃ M1 : Hp, M1 = va_up M v18 (.inl (cy 14, 12, .inl (upd f20 ((nI v15) : Int32).toNatClampNeg (nI j_46)))) := ⟨_, rfl⟩
                have hP : va_P D vwCl ([(za, .inr (13, [.int 0, .ref z1, .int (nI z2), .int (nI z3), .int z4, .int z5, .ref z6, .ref z7, .ref z8, .ref z9, .int (nI z10), .ref z11, .ref z12, .ref z13, .ref z14, .ref z15, .int (nI z16), .ref z17, .int z18, .ref z19]))] ++ va_pl L M_49) H_48 := by rw [eM_49]; exact hP
                have hD : va_D A ([(za, .inr (13, [.int 0, .ref z1, .int (nI z2), .int (nI z3), .int z4, .int z5, .ref z6, .ref z7, .ref z8, .ref z9, .int (nI z10), .ref z11, .ref z12, .ref z13, .ref z14, .ref z15, .int (nI z16), .ref z17, .int z18, .ref z19]))] ++ va_pl L M_49) := by rw [eM_49]; exact hD
                have hW : WOM cy K L M_49 := by rw [eM_49]; exact hW.up_38 hc18 ⟨_, rfl, (updP (P := fun z => ∃ c : Nat, c < 1000 ∧ z = nI c) hf20 ⟨j_46, by omega, rfl⟩)⟩
                have hF : fr K L [12, 38] M M_49 := by rw [eM_49]; exact hF.up hc18 (by decide)
                have hG : fG K L [12] M M_49 := by rw [eM_49]; exact hG.arr hc18 (by decide)
                have hM_50 : M_49 v18 = .inl (cy 14, 12, .inl (upd f20 ((nI v15) : Int32).toNatClampNeg (nI j_46))) := by rw [eM_49]; exact va_up_self _ _ _
                have hM_51 : M_49 z1 = .inl (cy 23, 8, .inr (.inr (.inr (.inr (f9))))) := by rw [eM_49, va_up_ne _ _ (i1.neT hc18 (by decide))]; exact hM9
                have hM_52 : M_49 b11 = .inr (12, fs14) := by rw [eM_49, va_up_ne _ _ (hb_13.neT hc18 (by decide))]; exact hM14
                have hf_54 : ∀ j, j < 12 → ∃ c : Nat, c < 1000 ∧ (upd f20 ((nI v15) : Int32).toNatClampNeg (nI j_46)) j = nI c := (updP (P := fun z => ∃ c : Nat, c < 1000 ∧ z = nI c) hf20 ⟨j_46, by omega, rfl⟩)
                obtain ⟨f_53, ef_53⟩ : ∃ f : Nat → Int32, f = upd f20 ((nI v15) : Int32).toNatClampNeg (nI j_46) := ⟨_, rfl⟩
                rw [← ef_53] at hM_50 hf_54
                clear ef_53
                refine lv_aload_n hx hb dX13_end_113 rfl (lv_at hl 1 rfl) ?_
                refine lv_dup hx hb dX13_end_114 rfl ?_
                refine pg_getN (D := D) (ci := 12) (v := .int (nI v15)) (C := RX12) (T := TX12) (N := 51) hx hb hg inG12 hown hK hP hb_13.1 hM_52 rfl 12 (by decide) (hN.use (Cond.fieldLinkNest RX13 233 RX12 "years" "I" RX13) 21 rfl rfl) (fun _ h9 => h9) hv15 dX13_end_115 ?_
                refine lv_iconst (v := 1) hx hb dX13_end_118 (by decide) ?_
                refine lv_iadd hx hb dX13_end_119 ?_
                refine lv_topi (fun f_55 ef_55 => ?_)
                obtain rfl : f_55 = (nI (v15 + 1)) := ef_55.trans (nI_add v15 1)
                refine pg_putN (D := D) (ci := 12) (v := .int (nI (v15 + 1))) (ty := .int) (C := RX12) (T := TX12) (N := 51) hx hb hg inG12 tyX12 tyX12_ok nmX12 hown hK hP hD hS hb_13.1 hM_52 rfl 12 (by decide) (hN.use (Cond.fieldLinkNest RX13 233 RX12 "years" "I" RX13) 21 rfl rfl) (fun _ h9 => h9) rfl (by decide +kernel) rfl rfl (by rw [hn14]; decide) dX13_end_120 (fun H_56 locs hP hD hS => ?_)
                have hs_59 : (fs14.set 12 (.int (nI (v15 + 1))))[12]? = some (.int (nI (v15 + 1))) := List.getElem?_set_self (by rw [hn14]; decide)
                have hk_58 := fld12_set (k := 12) (w := .int (nI (v15 + 1))) hl14 (show fld12 K L 12 (fs14.set 12 (.int (nI (v15 + 1)))) from ⟨(v15 + 1), hs_59, by omega⟩)
                have hn_60 : (fs14.set 12 (.int (nI (v15 + 1)))).length = 51 := by rw [List.length_set]; exact hn14
                have hv_61 : (fs14.set 12 (.int (nI (v15 + 1))))[37]? = some (.ref v18) := by rw [List.getElem?_set_ne (by decide)]; exact hv18
                have hb_62 : (v15 + 1) ≤ 12 := by omega
                obtain ⟨M_63, eM_63⟩ : ∃ M1 : Hp, M1 = va_up M_49 b11 (.inr (12, fs14.set 12 (.int (nI (v15 + 1))))) := ⟨_, rfl⟩
                have hP : va_P D vwCl ([(za, .inr (13, [.int 0, .ref z1, .int (nI z2), .int (nI z3), .int z4, .int z5, .ref z6, .ref z7, .ref z8, .ref z9, .int (nI z10), .ref z11, .ref z12, .ref z13, .ref z14, .ref z15, .int (nI z16), .ref z17, .int z18, .ref z19]))] ++ va_pl L M_63) H_56 := by rw [eM_63]; exact hP
                have hD : va_D A ([(za, .inr (13, [.int 0, .ref z1, .int (nI z2), .int (nI z3), .int z4, .int z5, .ref z6, .ref z7, .ref z8, .ref z9, .int (nI z10), .ref z11, .ref z12, .ref z13, .ref z14, .ref z15, .int (nI z16), .ref z17, .int z18, .ref z19]))] ++ va_pl L M_63) := by rw [eM_63]; exact hD
                have hW : WOM cy K L M_63 := by rw [eM_63]; exact hW.up_12 hb_13 ⟨_, rfl, hn_60, hk_58⟩
                have hF : fr K L [12, 38] M M_63 := by rw [eM_63]; exact hF.up hb_13 (by decide)
                have hG : fG K L [12] M M_63 := by rw [eM_63]; exact hG.up hM_52 (by decide)
                have hM_64 : M_63 b11 = .inr (12, fs14.set 12 (.int (nI (v15 + 1)))) := by rw [eM_63]; exact va_up_self _ _ _
                have hM_65 : M_63 v18 = .inl (cy 14, 12, .inl (f_53)) := by rw [eM_63, va_up_ne _ _ (hc18.neT hb_13 (by decide))]; exact hM_50
                have hM_66 : M_63 z1 = .inl (cy 23, 8, .inr (.inr (.inr (.inr (f9))))) := by rw [eM_63, va_up_ne _ _ (i1.neT hb_13 (by decide))]; exact hM_51
                refine lv_aload_n hx hb dX13_end_123 rfl (lv_at hl 2 rfl) ?_
                refine lv_aload_n hx hb dX13_end_124 rfl (lv_at hl 1 rfl) ?_
                refine pg_getN (D := D) (ci := 12) (v := .int (nI (v15 + 1))) (C := RX12) (T := TX12) (N := 51) hx hb hg inG12 hown hK hP hb_13.1 hM_64 rfl 12 (by decide) (hN.use (Cond.fieldLinkNest RX13 233 RX12 "years" "I" RX13) 21 rfl rfl) (fun _ h9 => h9) hs_59 dX13_end_125 ?_
                have hPc := hP.sub (ws' := [(za, .inr (13, [.int 0, .ref z1, .int (nI z2), .int (nI z3), .int z4, .int z5, .ref z6, .ref z7, .ref z8, .ref z9, .int (nI z10), .ref z11, .ref z12, .ref z13, .ref z14, .ref z15, .int (nI z16), .ref z17, .int z18, .ref z19]))]) [0] rfl
                have hDc := hD.sub (ws' := [(za, .inr (13, [.int 0, .ref z1, .int (nI z2), .int (nI z3), .int z4, .int z5, .ref z6, .ref z7, .ref z8, .ref z9, .int (nI z10), .ref z11, .ref z12, .ref z13, .ref z14, .ref z15, .int (nI z16), .ref z17, .int z18, .ref z19]))]) [0] (by decide) rfl
                have hKc := hK.sub (tys' := []) [] rfl
                have hFc := va_free (wc := [(za, .inr (13, [.int 0, .ref z1, .int (nI z2), .int (nI z3), .int z4, .int z5, .ref z6, .ref z7, .ref z8, .ref z9, .int (nI z10), .ref z11, .ref z12, .ref z13, .ref z14, .ref z15, .int (nI z16), .ref z17, .int z18, .ref z19]))]) hD hS hA [0] rfl
                refine va_calli (va_runV (As := [.int (nI (v15 + 1))]) (rest := []) ⟨hx, hb, hml, hown, hg⟩ (m_done l D H_56.size za 0 z1 (nI z2) (nI z3) z4 z5 z6 z7 z8 z9 (nI z10) z11 z12 z13 z14 z15 (nI z16) z17 z18 z19 (nI (v15 + 1))) (cwV 1 hg (gV wd_730 wd_731 wd_732 wd_717 wd_733) rfl rfl rfl (by decide +kernel) ⟨(Nat.le_trans (Nat.le_of_ble_eq_true rfl) hRf), (Nat.le_trans (Nat.le_of_ble_eq_true rfl) hRl)⟩) ⟨Pr.blind, va_recv hK hP (ci := 13) (q0 := 0) rfl rfl, fun U hU hW => ⟨rfl, Pr.at hPc hKc hDc hN hU hW⟩⟩ rfl rfl hl.1 rfl (lv_room (Nat.le_of_ble_eq_true rfl)) dX13_end_128 ⟨(Nat.le_trans (Nat.le_of_ble_eq_true rfl) hRc), (Nat.le_trans (Nat.le_of_ble_eq_true rfl) hRs)⟩) hS (fun q _ h => hFc q h) hFc (fun r_68 M_69 t H_67 locs ht hvm hw hB hz1 hk1 hS => ?_)
                have hp_70 := hw
                obtain ⟨hP1, hK1, hD1⟩ := hB
                rw [ht] at hP1
                obtain ⟨hP, hD⟩ := va_joinQ (X := [(za, .inr (13, [.int 0, .ref z1, .int (nI z2), .int (nI z3), .int z4, .int z5, .ref z6, .ref z7, .ref z8, .ref z9, .int (nI z10), .ref z11, .ref z12, .ref z13, .ref z14, .ref z15, .int (nI z16), .ref z17, .int z18, .ref z19]))]) (cx := [(za, .inr (13, [.int 0, .ref z1, .int (nI z2), .int (nI z3), .int z4, .int z5, .ref z6, .ref z7, .ref z8, .ref z9, .int (nI z10), .ref z11, .ref z12, .ref z13, .ref z14, .ref z15, .int (nI z16), .ref z17, .int z18, .ref z19]))]) (wr := []) (w1 := [(za, .inr (13, [.int 0, .ref z1, .int (nI z2), .int (nI z3), .int 0, .int (-1), .ref z6, .ref z7, .ref z8, .ref z9, .int (nI z10), .ref z11, .ref z12, .ref z13, .ref z14, .ref z15, .int (nI z16), .ref z17, .int z18, .ref z19]))]) (pl := va_pl L M_63) hP hD [0] [] rfl rfl (by decide) (by decide) hk1 hFc hP1 hD1
                have hP : va_P D vwCl ([(za, .inr (13, [.int 0, .ref z1, .int (nI z2), .int (nI z3), .int 0, .int (-1), .ref z6, .ref z7, .ref z8, .ref z9, .int (nI z10), .ref z11, .ref z12, .ref z13, .ref z14, .ref z15, .int (nI z16), .ref z17, .int z18, .ref z19]))] ++ va_pl L M_63) H_67 := hP
                have hD : va_D A ([(za, .inr (13, [.int 0, .ref z1, .int (nI z2), .int (nI z3), .int 0, .int (-1), .ref z6, .ref z7, .ref z8, .ref z9, .int (nI z10), .ref z11, .ref z12, .ref z13, .ref z14, .ref z15, .int (nI z16), .ref z17, .int z18, .ref z19]))] ++ va_pl L M_63) := hD
                have hq := Eq.symm hp_70
                subst hq
                rw [hQ]
                exact W.iret (v := (nI (v15 + 1))) hx hb hr (fun t ht hW9 => ⟨⟨(nI (v15 + 1)), M_63, rfl, ⟨hW, hF, hG, trivial⟩, ⟨0, (-1), by rw [ht]; exact hP, hD⟩⟩, hS.F ht⟩) hS.2.2 dX13_end_131
              · have hz := rfl (a := 0)
                have n_71 : v15 = 12 := (iEQ (a := v15) (b := 12) (by omega) (by omega)).mp c_44
                refine lv_aload_n hx hb dX13_end_96 rfl (lv_at hl 2 rfl) ?_
                refine lv_bipush (v := 9) hx hb dX13_end_97 (by decide) ?_
                have hPc := hP.sub (ws' := [(za, .inr (13, [.int 0, .ref z1, .int (nI z2), .int (nI z3), .int z4, .int z5, .ref z6, .ref z7, .ref z8, .ref z9, .int (nI z10), .ref z11, .ref z12, .ref z13, .ref z14, .ref z15, .int (nI z16), .ref z17, .int z18, .ref z19]))]) [0] rfl
                have hDc := hD.sub (ws' := [(za, .inr (13, [.int 0, .ref z1, .int (nI z2), .int (nI z3), .int z4, .int z5, .ref z6, .ref z7, .ref z8, .ref z9, .int (nI z10), .ref z11, .ref z12, .ref z13, .ref z14, .ref z15, .int (nI z16), .ref z17, .int z18, .ref z19]))]) [0] (by decide) rfl
                have hKc := hK.sub (tys' := []) [] rfl
                have hFc := va_free (wc := [(za, .inr (13, [.int 0, .ref z1, .int (nI z2), .int (nI z3), .int z4, .int z5, .ref z6, .ref z7, .ref z8, .ref z9, .int (nI z10), .ref z11, .ref z12, .ref z13, .ref z14, .ref z15, .int (nI z16), .ref z17, .int z18, .ref z19]))]) hD hS hA [0] rfl
                refine va_calli (va_runV (As := [.int 9]) (rest := []) ⟨hx, hb, hml, hown, hg⟩ (m_refused l D H_2.size za 0 z1 (nI z2) (nI z3) z4 z5 z6 z7 z8 z9 (nI z10) z11 z12 z13 z14 z15 (nI z16) z17 z18 z19 9) (cwV 1 hg (gV wd_725 wd_726 wd_727 wd_717 wd_728) rfl rfl rfl (by decide +kernel) ⟨(Nat.le_trans (Nat.le_of_ble_eq_true rfl) hRf), (Nat.le_trans (Nat.le_of_ble_eq_true rfl) hRl)⟩) ⟨Pr.blind, va_recv hK hP (ci := 13) (q0 := 0) rfl rfl, fun U hU hW => ⟨rfl, Pr.at hPc hKc hDc hN hU hW⟩⟩ rfl rfl hl.1 rfl (lv_room (Nat.le_of_ble_eq_true rfl)) dX13_end_99 ⟨(Nat.le_trans (Nat.le_of_ble_eq_true rfl) hRc), (Nat.le_trans (Nat.le_of_ble_eq_true rfl) hRs)⟩) hS (fun q _ h => hFc q h) hFc (fun r_73 M_74 t H_72 locs ht hvm hw hB hz1 hk1 hS => ?_)
                have hp_75 := hw
                obtain ⟨hP1, hK1, hD1⟩ := hB
                rw [ht] at hP1
                obtain ⟨hP, hD⟩ := va_joinQ (X := [(za, .inr (13, [.int 0, .ref z1, .int (nI z2), .int (nI z3), .int z4, .int z5, .ref z6, .ref z7, .ref z8, .ref z9, .int (nI z10), .ref z11, .ref z12, .ref z13, .ref z14, .ref z15, .int (nI z16), .ref z17, .int z18, .ref z19]))]) (cx := [(za, .inr (13, [.int 0, .ref z1, .int (nI z2), .int (nI z3), .int z4, .int z5, .ref z6, .ref z7, .ref z8, .ref z9, .int (nI z10), .ref z11, .ref z12, .ref z13, .ref z14, .ref z15, .int (nI z16), .ref z17, .int z18, .ref z19]))]) (wr := []) (w1 := [(za, .inr (13, [.int 0, .ref z1, .int (nI z2), .int (nI z3), .int 9, .int (-1), .ref z6, .ref z7, .ref z8, .ref z9, .int (nI z10), .ref z11, .ref z12, .ref z13, .ref z14, .ref z15, .int (nI z16), .ref z17, .int z18, .ref z19]))]) (pl := va_pl L M) hP hD [0] [] rfl rfl (by decide) (by decide) hk1 hFc hP1 hD1
                have hP : va_P D vwCl ([(za, .inr (13, [.int 0, .ref z1, .int (nI z2), .int (nI z3), .int 9, .int (-1), .ref z6, .ref z7, .ref z8, .ref z9, .int (nI z10), .ref z11, .ref z12, .ref z13, .ref z14, .ref z15, .int (nI z16), .ref z17, .int z18, .ref z19]))] ++ va_pl L M) H_72 := hP
                have hD : va_D A ([(za, .inr (13, [.int 0, .ref z1, .int (nI z2), .int (nI z3), .int 9, .int (-1), .ref z6, .ref z7, .ref z8, .ref z9, .int (nI z10), .ref z11, .ref z12, .ref z13, .ref z14, .ref z15, .int (nI z16), .ref z17, .int z18, .ref z19]))] ++ va_pl L M) := hD
                have hq := Eq.symm hp_75
                subst hq
                rw [hQ]
                exact W.iret (v := (-1)) hx hb hr (fun t ht hW9 => ⟨⟨(-1), M, rfl, ⟨hW, hF, hG, trivial⟩, ⟨9, (-1), by rw [ht]; exact hP, hD⟩⟩, hS.F ht⟩) hS.2.2 dX13_end_102
            · have hz := rfl (a := 0)
              have n_76 : ¬ k2 < 0 := gtN (c := ((c_23 + 1) + 99)) (by omega) (Int32.not_le.mp c_43)
              refine lv_aload_n hx hb dX13_end_81 rfl (lv_at hl 2 rfl) ?_
              refine lv_iconst (v := 3) hx hb dX13_end_82 (by decide) ?_
              have hPc := hP.sub (ws' := [(za, .inr (13, [.int 0, .ref z1, .int (nI z2), .int (nI z3), .int z4, .int z5, .ref z6, .ref z7, .ref z8, .ref z9, .int (nI z10), .ref z11, .ref z12, .ref z13, .ref z14, .ref z15, .int (nI z16), .ref z17, .int z18, .ref z19]))]) [0] rfl
              have hDc := hD.sub (ws' := [(za, .inr (13, [.int 0, .ref z1, .int (nI z2), .int (nI z3), .int z4, .int z5, .ref z6, .ref z7, .ref z8, .ref z9, .int (nI z10), .ref z11, .ref z12, .ref z13, .ref z14, .ref z15, .int (nI z16), .ref z17, .int z18, .ref z19]))]) [0] (by decide) rfl
              have hKc := hK.sub (tys' := []) [] rfl
              have hFc := va_free (wc := [(za, .inr (13, [.int 0, .ref z1, .int (nI z2), .int (nI z3), .int z4, .int z5, .ref z6, .ref z7, .ref z8, .ref z9, .int (nI z10), .ref z11, .ref z12, .ref z13, .ref z14, .ref z15, .int (nI z16), .ref z17, .int z18, .ref z19]))]) hD hS hA [0] rfl
              refine va_calli (va_runV (As := [.int 3]) (rest := []) ⟨hx, hb, hml, hown, hg⟩ (m_refused l D H_2.size za 0 z1 (nI z2) (nI z3) z4 z5 z6 z7 z8 z9 (nI z10) z11 z12 z13 z14 z15 (nI z16) z17 z18 z19 3) (cwV 1 hg (gV wd_725 wd_726 wd_727 wd_717 wd_728) rfl rfl rfl (by decide +kernel) ⟨(Nat.le_trans (Nat.le_of_ble_eq_true rfl) hRf), (Nat.le_trans (Nat.le_of_ble_eq_true rfl) hRl)⟩) ⟨Pr.blind, va_recv hK hP (ci := 13) (q0 := 0) rfl rfl, fun U hU hW => ⟨rfl, Pr.at hPc hKc hDc hN hU hW⟩⟩ rfl rfl hl.1 rfl (lv_room (Nat.le_of_ble_eq_true rfl)) dX13_end_83 ⟨(Nat.le_trans (Nat.le_of_ble_eq_true rfl) hRc), (Nat.le_trans (Nat.le_of_ble_eq_true rfl) hRs)⟩) hS (fun q _ h => hFc q h) hFc (fun r_78 M_79 t H_77 locs ht hvm hw hB hz1 hk1 hS => ?_)
              have hp_80 := hw
              obtain ⟨hP1, hK1, hD1⟩ := hB
              rw [ht] at hP1
              obtain ⟨hP, hD⟩ := va_joinQ (X := [(za, .inr (13, [.int 0, .ref z1, .int (nI z2), .int (nI z3), .int z4, .int z5, .ref z6, .ref z7, .ref z8, .ref z9, .int (nI z10), .ref z11, .ref z12, .ref z13, .ref z14, .ref z15, .int (nI z16), .ref z17, .int z18, .ref z19]))]) (cx := [(za, .inr (13, [.int 0, .ref z1, .int (nI z2), .int (nI z3), .int z4, .int z5, .ref z6, .ref z7, .ref z8, .ref z9, .int (nI z10), .ref z11, .ref z12, .ref z13, .ref z14, .ref z15, .int (nI z16), .ref z17, .int z18, .ref z19]))]) (wr := []) (w1 := [(za, .inr (13, [.int 0, .ref z1, .int (nI z2), .int (nI z3), .int 3, .int (-1), .ref z6, .ref z7, .ref z8, .ref z9, .int (nI z10), .ref z11, .ref z12, .ref z13, .ref z14, .ref z15, .int (nI z16), .ref z17, .int z18, .ref z19]))]) (pl := va_pl L M) hP hD [0] [] rfl rfl (by decide) (by decide) hk1 hFc hP1 hD1
              have hP : va_P D vwCl ([(za, .inr (13, [.int 0, .ref z1, .int (nI z2), .int (nI z3), .int 3, .int (-1), .ref z6, .ref z7, .ref z8, .ref z9, .int (nI z10), .ref z11, .ref z12, .ref z13, .ref z14, .ref z15, .int (nI z16), .ref z17, .int z18, .ref z19]))] ++ va_pl L M) H_77 := hP
              have hD : va_D A ([(za, .inr (13, [.int 0, .ref z1, .int (nI z2), .int (nI z3), .int 3, .int (-1), .ref z6, .ref z7, .ref z8, .ref z9, .int (nI z10), .ref z11, .ref z12, .ref z13, .ref z14, .ref z15, .int (nI z16), .ref z17, .int z18, .ref z19]))] ++ va_pl L M) := hD
              have hq := Eq.symm hp_80
              subst hq
              rw [hQ]
              exact W.iret (v := (-1)) hx hb hr (fun t ht hW9 => ⟨⟨(-1), M, rfl, ⟨hW, hF, hG, trivial⟩, ⟨3, (-1), by rw [ht]; exact hP, hD⟩⟩, hS.F ht⟩) hS.2.2 dX13_end_86
    · have hz := rfl (a := 0)
      have n_81 : v15 = 0 := (iEQ (a := v15) (b := 0) (by omega) (by omega)).mp c_16
      refine lv_aload_n hx hb dX13_end_33 rfl (lv_at hl 0 rfl) ?_
      obtain ⟨v82, hv82, hc82⟩ : ∃ v : Nat, fs14[0]? = some (.int (nI v) : Value) ∧ v ≤ 999 := hl14 0 (by decide)
      refine pg_getN (D := D) (ci := 12) (v := .int (nI v82)) (C := RX12) (T := TX12) (N := 51) hx hb hg inG12 hown hK hP hb_13.1 hM14 rfl 0 (by decide) (hN.use (Cond.fieldLinkNest RX13 77 RX12 "first" "I" RX13) 9 rfl rfl) (fun _ h9 => h9) hv82 dX13_end_34 ?_
      refine lv_goto (tgt := 53) hx hb dX13_end_37 (by decide) ?_
      refine lv_istore (lv' := [(4, .int (nI v82)), (3, .ref b11), (0, .ref za), (1, .int k1), (2, .int k2)]) hx hb dX13_end_53 hl (by decide) rfl (fun ls hl => ?_)
      refine lv_iload_n hx hb dX13_end_55 rfl (lv_at hl 4 rfl) ?_
      refine lv_if_lt (tgt := 81) hx hb dX13_end_56 (by decide) (fun c_83 => ?_) (fun c_83 => ?_)
      · have hz := rfl (a := 0)
        refine lv_aload_n hx hb dX13_end_81 rfl (lv_at hl 2 rfl) ?_
        refine lv_iconst (v := 3) hx hb dX13_end_82 (by decide) ?_
        have hPc := hP.sub (ws' := [(za, .inr (13, [.int 0, .ref z1, .int (nI z2), .int (nI z3), .int z4, .int z5, .ref z6, .ref z7, .ref z8, .ref z9, .int (nI z10), .ref z11, .ref z12, .ref z13, .ref z14, .ref z15, .int (nI z16), .ref z17, .int z18, .ref z19]))]) [0] rfl
        have hDc := hD.sub (ws' := [(za, .inr (13, [.int 0, .ref z1, .int (nI z2), .int (nI z3), .int z4, .int z5, .ref z6, .ref z7, .ref z8, .ref z9, .int (nI z10), .ref z11, .ref z12, .ref z13, .ref z14, .ref z15, .int (nI z16), .ref z17, .int z18, .ref z19]))]) [0] (by decide) rfl
        have hKc := hK.sub (tys' := []) [] rfl
        have hFc := va_free (wc := [(za, .inr (13, [.int 0, .ref z1, .int (nI z2), .int (nI z3), .int z4, .int z5, .ref z6, .ref z7, .ref z8, .ref z9, .int (nI z10), .ref z11, .ref z12, .ref z13, .ref z14, .ref z15, .int (nI z16), .ref z17, .int z18, .ref z19]))]) hD hS hA [0] rfl
        refine va_calli (va_runV (As := [.int 3]) (rest := []) ⟨hx, hb, hml, hown, hg⟩ (m_refused l D H_2.size za 0 z1 (nI z2) (nI z3) z4 z5 z6 z7 z8 z9 (nI z10) z11 z12 z13 z14 z15 (nI z16) z17 z18 z19 3) (cwV 1 hg (gV wd_725 wd_726 wd_727 wd_717 wd_728) rfl rfl rfl (by decide +kernel) ⟨(Nat.le_trans (Nat.le_of_ble_eq_true rfl) hRf), (Nat.le_trans (Nat.le_of_ble_eq_true rfl) hRl)⟩) ⟨Pr.blind, va_recv hK hP (ci := 13) (q0 := 0) rfl rfl, fun U hU hW => ⟨rfl, Pr.at hPc hKc hDc hN hU hW⟩⟩ rfl rfl hl.1 rfl (lv_room (Nat.le_of_ble_eq_true rfl)) dX13_end_83 ⟨(Nat.le_trans (Nat.le_of_ble_eq_true rfl) hRc), (Nat.le_trans (Nat.le_of_ble_eq_true rfl) hRs)⟩) hS (fun q _ h => hFc q h) hFc (fun r_85 M_86 t H_84 locs ht hvm hw hB hz1 hk1 hS => ?_)
        have hp_87 := hw
        obtain ⟨hP1, hK1, hD1⟩ := hB
        rw [ht] at hP1
        obtain ⟨hP, hD⟩ := va_joinQ (X := [(za, .inr (13, [.int 0, .ref z1, .int (nI z2), .int (nI z3), .int z4, .int z5, .ref z6, .ref z7, .ref z8, .ref z9, .int (nI z10), .ref z11, .ref z12, .ref z13, .ref z14, .ref z15, .int (nI z16), .ref z17, .int z18, .ref z19]))]) (cx := [(za, .inr (13, [.int 0, .ref z1, .int (nI z2), .int (nI z3), .int z4, .int z5, .ref z6, .ref z7, .ref z8, .ref z9, .int (nI z10), .ref z11, .ref z12, .ref z13, .ref z14, .ref z15, .int (nI z16), .ref z17, .int z18, .ref z19]))]) (wr := []) (w1 := [(za, .inr (13, [.int 0, .ref z1, .int (nI z2), .int (nI z3), .int 3, .int (-1), .ref z6, .ref z7, .ref z8, .ref z9, .int (nI z10), .ref z11, .ref z12, .ref z13, .ref z14, .ref z15, .int (nI z16), .ref z17, .int z18, .ref z19]))]) (pl := va_pl L M) hP hD [0] [] rfl rfl (by decide) (by decide) hk1 hFc hP1 hD1
        have hP : va_P D vwCl ([(za, .inr (13, [.int 0, .ref z1, .int (nI z2), .int (nI z3), .int 3, .int (-1), .ref z6, .ref z7, .ref z8, .ref z9, .int (nI z10), .ref z11, .ref z12, .ref z13, .ref z14, .ref z15, .int (nI z16), .ref z17, .int z18, .ref z19]))] ++ va_pl L M) H_84 := hP
        have hD : va_D A ([(za, .inr (13, [.int 0, .ref z1, .int (nI z2), .int (nI z3), .int 3, .int (-1), .ref z6, .ref z7, .ref z8, .ref z9, .int (nI z10), .ref z11, .ref z12, .ref z13, .ref z14, .ref z15, .int (nI z16), .ref z17, .int z18, .ref z19]))] ++ va_pl L M) := hD
        have hq := Eq.symm hp_87
        subst hq
        rw [hQ]
        exact W.iret (v := (-1)) hx hb hr (fun t ht hW9 => ⟨⟨(-1), M, rfl, ⟨hW, hF, hG, trivial⟩, ⟨3, (-1), by rw [ht]; exact hP, hD⟩⟩, hS.F ht⟩) hS.2.2 dX13_end_86
      · have hz := rfl (a := 0)
        refine lv_iload_n hx hb dX13_end_59 rfl (lv_at hl 4 rfl) ?_
        refine lv_sipush (v := 1000) hx hb dX13_end_60 (by decide) ?_
        refine lv_icmp_ge (tgt := 81) hx hb dX13_end_63 (by decide) (fun c_88 => ?_) (fun c_88 => ?_)
        · have hz := rfl (a := 0)
          refine lv_aload_n hx hb dX13_end_81 rfl (lv_at hl 2 rfl) ?_
          refine lv_iconst (v := 3) hx hb dX13_end_82 (by decide) ?_
          have hPc := hP.sub (ws' := [(za, .inr (13, [.int 0, .ref z1, .int (nI z2), .int (nI z3), .int z4, .int z5, .ref z6, .ref z7, .ref z8, .ref z9, .int (nI z10), .ref z11, .ref z12, .ref z13, .ref z14, .ref z15, .int (nI z16), .ref z17, .int z18, .ref z19]))]) [0] rfl
          have hDc := hD.sub (ws' := [(za, .inr (13, [.int 0, .ref z1, .int (nI z2), .int (nI z3), .int z4, .int z5, .ref z6, .ref z7, .ref z8, .ref z9, .int (nI z10), .ref z11, .ref z12, .ref z13, .ref z14, .ref z15, .int (nI z16), .ref z17, .int z18, .ref z19]))]) [0] (by decide) rfl
          have hKc := hK.sub (tys' := []) [] rfl
          have hFc := va_free (wc := [(za, .inr (13, [.int 0, .ref z1, .int (nI z2), .int (nI z3), .int z4, .int z5, .ref z6, .ref z7, .ref z8, .ref z9, .int (nI z10), .ref z11, .ref z12, .ref z13, .ref z14, .ref z15, .int (nI z16), .ref z17, .int z18, .ref z19]))]) hD hS hA [0] rfl
          refine va_calli (va_runV (As := [.int 3]) (rest := []) ⟨hx, hb, hml, hown, hg⟩ (m_refused l D H_2.size za 0 z1 (nI z2) (nI z3) z4 z5 z6 z7 z8 z9 (nI z10) z11 z12 z13 z14 z15 (nI z16) z17 z18 z19 3) (cwV 1 hg (gV wd_725 wd_726 wd_727 wd_717 wd_728) rfl rfl rfl (by decide +kernel) ⟨(Nat.le_trans (Nat.le_of_ble_eq_true rfl) hRf), (Nat.le_trans (Nat.le_of_ble_eq_true rfl) hRl)⟩) ⟨Pr.blind, va_recv hK hP (ci := 13) (q0 := 0) rfl rfl, fun U hU hW => ⟨rfl, Pr.at hPc hKc hDc hN hU hW⟩⟩ rfl rfl hl.1 rfl (lv_room (Nat.le_of_ble_eq_true rfl)) dX13_end_83 ⟨(Nat.le_trans (Nat.le_of_ble_eq_true rfl) hRc), (Nat.le_trans (Nat.le_of_ble_eq_true rfl) hRs)⟩) hS (fun q _ h => hFc q h) hFc (fun r_90 M_91 t H_89 locs ht hvm hw hB hz1 hk1 hS => ?_)
          have hp_92 := hw
          obtain ⟨hP1, hK1, hD1⟩ := hB
          rw [ht] at hP1
          obtain ⟨hP, hD⟩ := va_joinQ (X := [(za, .inr (13, [.int 0, .ref z1, .int (nI z2), .int (nI z3), .int z4, .int z5, .ref z6, .ref z7, .ref z8, .ref z9, .int (nI z10), .ref z11, .ref z12, .ref z13, .ref z14, .ref z15, .int (nI z16), .ref z17, .int z18, .ref z19]))]) (cx := [(za, .inr (13, [.int 0, .ref z1, .int (nI z2), .int (nI z3), .int z4, .int z5, .ref z6, .ref z7, .ref z8, .ref z9, .int (nI z10), .ref z11, .ref z12, .ref z13, .ref z14, .ref z15, .int (nI z16), .ref z17, .int z18, .ref z19]))]) (wr := []) (w1 := [(za, .inr (13, [.int 0, .ref z1, .int (nI z2), .int (nI z3), .int 3, .int (-1), .ref z6, .ref z7, .ref z8, .ref z9, .int (nI z10), .ref z11, .ref z12, .ref z13, .ref z14, .ref z15, .int (nI z16), .ref z17, .int z18, .ref z19]))]) (pl := va_pl L M) hP hD [0] [] rfl rfl (by decide) (by decide) hk1 hFc hP1 hD1
          have hP : va_P D vwCl ([(za, .inr (13, [.int 0, .ref z1, .int (nI z2), .int (nI z3), .int 3, .int (-1), .ref z6, .ref z7, .ref z8, .ref z9, .int (nI z10), .ref z11, .ref z12, .ref z13, .ref z14, .ref z15, .int (nI z16), .ref z17, .int z18, .ref z19]))] ++ va_pl L M) H_89 := hP
          have hD : va_D A ([(za, .inr (13, [.int 0, .ref z1, .int (nI z2), .int (nI z3), .int 3, .int (-1), .ref z6, .ref z7, .ref z8, .ref z9, .int (nI z10), .ref z11, .ref z12, .ref z13, .ref z14, .ref z15, .int (nI z16), .ref z17, .int z18, .ref z19]))] ++ va_pl L M) := hD
          have hq := Eq.symm hp_92
          subst hq
          rw [hQ]
          exact W.iret (v := (-1)) hx hb hr (fun t ht hW9 => ⟨⟨(-1), M, rfl, ⟨hW, hF, hG, trivial⟩, ⟨3, (-1), by rw [ht]; exact hP, hD⟩⟩, hS.F ht⟩) hS.2.2 dX13_end_86
        · have hz := rfl (a := 0)
          refine lv_iload_n hx hb dX13_end_66 rfl (lv_at hl 4 rfl) ?_
          refine lv_iload hx hb dX13_end_67 (lv_at hl 0 rfl) ?_
          refine lv_icmp_lt (tgt := 81) hx hb dX13_end_69 (by decide) (fun c_93 => ?_) (fun c_93 => ?_)
          · have hz := rfl (a := 0)
            have n_94 : ¬ 999 ≤ k2 := ltB (b := 999) (by decide) hc82 c_93
            refine lv_aload_n hx hb dX13_end_81 rfl (lv_at hl 2 rfl) ?_
            refine lv_iconst (v := 3) hx hb dX13_end_82 (by decide) ?_
            have hPc := hP.sub (ws' := [(za, .inr (13, [.int 0, .ref z1, .int (nI z2), .int (nI z3), .int z4, .int z5, .ref z6, .ref z7, .ref z8, .ref z9, .int (nI z10), .ref z11, .ref z12, .ref z13, .ref z14, .ref z15, .int (nI z16), .ref z17, .int z18, .ref z19]))]) [0] rfl
            have hDc := hD.sub (ws' := [(za, .inr (13, [.int 0, .ref z1, .int (nI z2), .int (nI z3), .int z4, .int z5, .ref z6, .ref z7, .ref z8, .ref z9, .int (nI z10), .ref z11, .ref z12, .ref z13, .ref z14, .ref z15, .int (nI z16), .ref z17, .int z18, .ref z19]))]) [0] (by decide) rfl
            have hKc := hK.sub (tys' := []) [] rfl
            have hFc := va_free (wc := [(za, .inr (13, [.int 0, .ref z1, .int (nI z2), .int (nI z3), .int z4, .int z5, .ref z6, .ref z7, .ref z8, .ref z9, .int (nI z10), .ref z11, .ref z12, .ref z13, .ref z14, .ref z15, .int (nI z16), .ref z17, .int z18, .ref z19]))]) hD hS hA [0] rfl
            refine va_calli (va_runV (As := [.int 3]) (rest := []) ⟨hx, hb, hml, hown, hg⟩ (m_refused l D H_2.size za 0 z1 (nI z2) (nI z3) z4 z5 z6 z7 z8 z9 (nI z10) z11 z12 z13 z14 z15 (nI z16) z17 z18 z19 3) (cwV 1 hg (gV wd_725 wd_726 wd_727 wd_717 wd_728) rfl rfl rfl (by decide +kernel) ⟨(Nat.le_trans (Nat.le_of_ble_eq_true rfl) hRf), (Nat.le_trans (Nat.le_of_ble_eq_true rfl) hRl)⟩) ⟨Pr.blind, va_recv hK hP (ci := 13) (q0 := 0) rfl rfl, fun U hU hW => ⟨rfl, Pr.at hPc hKc hDc hN hU hW⟩⟩ rfl rfl hl.1 rfl (lv_room (Nat.le_of_ble_eq_true rfl)) dX13_end_83 ⟨(Nat.le_trans (Nat.le_of_ble_eq_true rfl) hRc), (Nat.le_trans (Nat.le_of_ble_eq_true rfl) hRs)⟩) hS (fun q _ h => hFc q h) hFc (fun r_96 M_97 t H_95 locs ht hvm hw hB hz1 hk1 hS => ?_)
            have hp_98 := hw
            obtain ⟨hP1, hK1, hD1⟩ := hB
            rw [ht] at hP1
            obtain ⟨hP, hD⟩ := va_joinQ (X := [(za, .inr (13, [.int 0, .ref z1, .int (nI z2), .int (nI z3), .int z4, .int z5, .ref z6, .ref z7, .ref z8, .ref z9, .int (nI z10), .ref z11, .ref z12, .ref z13, .ref z14, .ref z15, .int (nI z16), .ref z17, .int z18, .ref z19]))]) (cx := [(za, .inr (13, [.int 0, .ref z1, .int (nI z2), .int (nI z3), .int z4, .int z5, .ref z6, .ref z7, .ref z8, .ref z9, .int (nI z10), .ref z11, .ref z12, .ref z13, .ref z14, .ref z15, .int (nI z16), .ref z17, .int z18, .ref z19]))]) (wr := []) (w1 := [(za, .inr (13, [.int 0, .ref z1, .int (nI z2), .int (nI z3), .int 3, .int (-1), .ref z6, .ref z7, .ref z8, .ref z9, .int (nI z10), .ref z11, .ref z12, .ref z13, .ref z14, .ref z15, .int (nI z16), .ref z17, .int z18, .ref z19]))]) (pl := va_pl L M) hP hD [0] [] rfl rfl (by decide) (by decide) hk1 hFc hP1 hD1
            have hP : va_P D vwCl ([(za, .inr (13, [.int 0, .ref z1, .int (nI z2), .int (nI z3), .int 3, .int (-1), .ref z6, .ref z7, .ref z8, .ref z9, .int (nI z10), .ref z11, .ref z12, .ref z13, .ref z14, .ref z15, .int (nI z16), .ref z17, .int z18, .ref z19]))] ++ va_pl L M) H_95 := hP
            have hD : va_D A ([(za, .inr (13, [.int 0, .ref z1, .int (nI z2), .int (nI z3), .int 3, .int (-1), .ref z6, .ref z7, .ref z8, .ref z9, .int (nI z10), .ref z11, .ref z12, .ref z13, .ref z14, .ref z15, .int (nI z16), .ref z17, .int z18, .ref z19]))] ++ va_pl L M) := hD
            have hq := Eq.symm hp_98
            subst hq
            rw [hQ]
            exact W.iret (v := (-1)) hx hb hr (fun t ht hW9 => ⟨⟨(-1), M, rfl, ⟨hW, hF, hG, trivial⟩, ⟨3, (-1), by rw [ht]; exact hP, hD⟩⟩, hS.F ht⟩) hS.2.2 dX13_end_86
          · have hz := rfl (a := 0)
            refine lv_iload_n hx hb dX13_end_72 rfl (lv_at hl 4 rfl) ?_
            refine lv_iload hx hb dX13_end_73 (lv_at hl 0 rfl) ?_
            refine lv_bipush (v := 99) hx hb dX13_end_75 (by decide) ?_
            refine lv_iadd hx hb dX13_end_77 ?_
            refine lv_topi (fun f_99 ef_99 => ?_)
            obtain rfl : f_99 = (nI (v82 + 99)) := ef_99.trans (nI_add v82 99)
            refine lv_icmp_le (tgt := 87) hx hb dX13_end_78 (by decide) (fun c_100 => ?_) (fun c_100 => ?_)
            · have hz := rfl (a := 0)
              refine lv_aload_n hx hb dX13_end_87 rfl (lv_at hl 1 rfl) ?_
              refine pg_getN (D := D) (ci := 12) (v := .int (nI v15)) (C := RX12) (T := TX12) (N := 51) hx hb hg inG12 hown hK hP hb_13.1 hM14 rfl 12 (by decide) (hN.use (Cond.fieldLinkNest RX13 233 RX12 "years" "I" RX13) 21 rfl rfl) (fun _ h9 => h9) hv15 dX13_end_88 ?_
              refine lv_bipush (v := 12) hx hb dX13_end_91 (by decide) ?_
              refine lv_icmp_ne (tgt := 103) hx hb dX13_end_93 (by decide) (fun c_101 => ?_) (fun c_101 => absurd c_101 (by rw [c_16]; decide))
              refine lv_aload_n hx hb dX13_end_103 rfl (lv_at hl 1 rfl) ?_
              obtain ⟨v102, hv102, hc102⟩ : ∃ v : Nat, fs14[37]? = some (.ref v : Value) ∧ isk K L v 38 12 := hl14 37 (by decide)
              refine pg_getN (D := D) (ci := 12) (v := .ref v102) (C := RX12) (T := TX12) (N := 51) hx hb hg inG12 hown hK hP hb_13.1 hM14 rfl 37 (by decide) (hN.use (Cond.fieldLinkNest RX13 236 RX12 "end" "[I" RX13) 46 rfl rfl) (fun _ h9 => h9) hv102 dX13_end_104 ?_
              refine lv_aload_n hx hb dX13_end_107 rfl (lv_at hl 1 rfl) ?_
              refine pg_getN (D := D) (ci := 12) (v := .int (nI v15)) (C := RX12) (T := TX12) (N := 51) hx hb hg inG12 hown hK hP hb_13.1 hM14 rfl 12 (by decide) (hN.use (Cond.fieldLinkNest RX13 233 RX12 "years" "I" RX13) 21 rfl rfl) (fun _ h9 => h9) hv15 dX13_end_108 ?_
              refine lv_iload_n hx hb dX13_end_111 rfl (lv_at hl 4 rfl) ?_
              obtain ⟨j_103, hj_104, rfl⟩ := i32nat 1000 (by decide) c_83 c_88
              obtain ⟨f105, hM105, hf105⟩ := hW.open_38 hc102
              refine pg_iast hx hb hK hP hD hS hc102.1 0 hM105 rfl (inbN v15 12 (by omega) (by omega)) dX13_end_112 (fun H_106 locs hP hD hS => ?_)
              obtain ⟨M_107, eM_107⟩ : ∃ M1 : Hp, M1 = va_up M v102 (.inl (cy 14, 12, .inl (upd f105 ((nI v15) : Int32).toNatClampNeg (nI j_103)))) := ⟨_, rfl⟩
              have hP : va_P D vwCl ([(za, .inr (13, [.int 0, .ref z1, .int (nI z2), .int (nI z3), .int z4, .int z5, .ref z6, .ref z7, .ref z8, .ref z9, .int (nI z10), .ref z11, .ref z12, .ref z13, .ref z14, .ref z15, .int (nI z16), .ref z17, .int z18, .ref z19]))] ++ va_pl L M_107) H_106 := by rw [eM_107]; exact hP
              have hD : va_D A ([(za, .inr (13, [.int 0, .ref z1, .int (nI z2), .int (nI z3), .int z4, .int z5, .ref z6, .ref z7, .ref z8, .ref z9, .int (nI z10), .ref z11, .ref z12, .ref z13, .ref z14, .ref z15, .int (nI z16), .ref z17, .int z18, .ref z19]))] ++ va_pl L M_107) := by rw [eM_107]; exact hD
              have hW : WOM cy K L M_107 := by rw [eM_107]; exact hW.up_38 hc102 ⟨_, rfl, (updP (P := fun z => ∃ c : Nat, c < 1000 ∧ z = nI c) hf105 ⟨j_103, by omega, rfl⟩)⟩
              have hF : fr K L [12, 38] M M_107 := by rw [eM_107]; exact hF.up hc102 (by decide)
              have hG : fG K L [12] M M_107 := by rw [eM_107]; exact hG.arr hc102 (by decide)
              have hM_108 : M_107 v102 = .inl (cy 14, 12, .inl (upd f105 ((nI v15) : Int32).toNatClampNeg (nI j_103))) := by rw [eM_107]; exact va_up_self _ _ _
              have hM_109 : M_107 z1 = .inl (cy 23, 8, .inr (.inr (.inr (.inr (f9))))) := by rw [eM_107, va_up_ne _ _ (i1.neT hc102 (by decide))]; exact hM9
              have hM_110 : M_107 b11 = .inr (12, fs14) := by rw [eM_107, va_up_ne _ _ (hb_13.neT hc102 (by decide))]; exact hM14
              have hf_112 : ∀ j, j < 12 → ∃ c : Nat, c < 1000 ∧ (upd f105 ((nI v15) : Int32).toNatClampNeg (nI j_103)) j = nI c := (updP (P := fun z => ∃ c : Nat, c < 1000 ∧ z = nI c) hf105 ⟨j_103, by omega, rfl⟩)
              obtain ⟨f_111, ef_111⟩ : ∃ f : Nat → Int32, f = upd f105 ((nI v15) : Int32).toNatClampNeg (nI j_103) := ⟨_, rfl⟩
              rw [← ef_111] at hM_108 hf_112
              clear ef_111
              refine lv_aload_n hx hb dX13_end_113 rfl (lv_at hl 1 rfl) ?_
              refine lv_dup hx hb dX13_end_114 rfl ?_
              refine pg_getN (D := D) (ci := 12) (v := .int (nI v15)) (C := RX12) (T := TX12) (N := 51) hx hb hg inG12 hown hK hP hb_13.1 hM_110 rfl 12 (by decide) (hN.use (Cond.fieldLinkNest RX13 233 RX12 "years" "I" RX13) 21 rfl rfl) (fun _ h9 => h9) hv15 dX13_end_115 ?_
              refine lv_iconst (v := 1) hx hb dX13_end_118 (by decide) ?_
              refine lv_iadd hx hb dX13_end_119 ?_
              refine lv_topi (fun f_113 ef_113 => ?_)
              obtain rfl : f_113 = (nI (v15 + 1)) := ef_113.trans (nI_add v15 1)
              refine pg_putN (D := D) (ci := 12) (v := .int (nI (v15 + 1))) (ty := .int) (C := RX12) (T := TX12) (N := 51) hx hb hg inG12 tyX12 tyX12_ok nmX12 hown hK hP hD hS hb_13.1 hM_110 rfl 12 (by decide) (hN.use (Cond.fieldLinkNest RX13 233 RX12 "years" "I" RX13) 21 rfl rfl) (fun _ h9 => h9) rfl (by decide +kernel) rfl rfl (by rw [hn14]; decide) dX13_end_120 (fun H_114 locs hP hD hS => ?_)
              have hs_117 : (fs14.set 12 (.int (nI (v15 + 1))))[12]? = some (.int (nI (v15 + 1))) := List.getElem?_set_self (by rw [hn14]; decide)
              have hk_116 := fld12_set (k := 12) (w := .int (nI (v15 + 1))) hl14 (show fld12 K L 12 (fs14.set 12 (.int (nI (v15 + 1)))) from ⟨(v15 + 1), hs_117, by omega⟩)
              have hn_118 : (fs14.set 12 (.int (nI (v15 + 1)))).length = 51 := by rw [List.length_set]; exact hn14
              have hv_119 : (fs14.set 12 (.int (nI (v15 + 1))))[0]? = some (.int (nI v82)) := by rw [List.getElem?_set_ne (by decide)]; exact hv82
              have hv_120 : (fs14.set 12 (.int (nI (v15 + 1))))[37]? = some (.ref v102) := by rw [List.getElem?_set_ne (by decide)]; exact hv102
              have hb_121 : (v15 + 1) ≤ 12 := by omega
              obtain ⟨M_122, eM_122⟩ : ∃ M1 : Hp, M1 = va_up M_107 b11 (.inr (12, fs14.set 12 (.int (nI (v15 + 1))))) := ⟨_, rfl⟩
              have hP : va_P D vwCl ([(za, .inr (13, [.int 0, .ref z1, .int (nI z2), .int (nI z3), .int z4, .int z5, .ref z6, .ref z7, .ref z8, .ref z9, .int (nI z10), .ref z11, .ref z12, .ref z13, .ref z14, .ref z15, .int (nI z16), .ref z17, .int z18, .ref z19]))] ++ va_pl L M_122) H_114 := by rw [eM_122]; exact hP
              have hD : va_D A ([(za, .inr (13, [.int 0, .ref z1, .int (nI z2), .int (nI z3), .int z4, .int z5, .ref z6, .ref z7, .ref z8, .ref z9, .int (nI z10), .ref z11, .ref z12, .ref z13, .ref z14, .ref z15, .int (nI z16), .ref z17, .int z18, .ref z19]))] ++ va_pl L M_122) := by rw [eM_122]; exact hD
              have hW : WOM cy K L M_122 := by rw [eM_122]; exact hW.up_12 hb_13 ⟨_, rfl, hn_118, hk_116⟩
              have hF : fr K L [12, 38] M M_122 := by rw [eM_122]; exact hF.up hb_13 (by decide)
              have hG : fG K L [12] M M_122 := by rw [eM_122]; exact hG.up hM_110 (by decide)
              have hM_123 : M_122 b11 = .inr (12, fs14.set 12 (.int (nI (v15 + 1)))) := by rw [eM_122]; exact va_up_self _ _ _
              have hM_124 : M_122 v102 = .inl (cy 14, 12, .inl (f_111)) := by rw [eM_122, va_up_ne _ _ (hc102.neT hb_13 (by decide))]; exact hM_108
              have hM_125 : M_122 z1 = .inl (cy 23, 8, .inr (.inr (.inr (.inr (f9))))) := by rw [eM_122, va_up_ne _ _ (i1.neT hb_13 (by decide))]; exact hM_109
              refine lv_aload_n hx hb dX13_end_123 rfl (lv_at hl 2 rfl) ?_
              refine lv_aload_n hx hb dX13_end_124 rfl (lv_at hl 1 rfl) ?_
              refine pg_getN (D := D) (ci := 12) (v := .int (nI (v15 + 1))) (C := RX12) (T := TX12) (N := 51) hx hb hg inG12 hown hK hP hb_13.1 hM_123 rfl 12 (by decide) (hN.use (Cond.fieldLinkNest RX13 233 RX12 "years" "I" RX13) 21 rfl rfl) (fun _ h9 => h9) hs_117 dX13_end_125 ?_
              have hPc := hP.sub (ws' := [(za, .inr (13, [.int 0, .ref z1, .int (nI z2), .int (nI z3), .int z4, .int z5, .ref z6, .ref z7, .ref z8, .ref z9, .int (nI z10), .ref z11, .ref z12, .ref z13, .ref z14, .ref z15, .int (nI z16), .ref z17, .int z18, .ref z19]))]) [0] rfl
              have hDc := hD.sub (ws' := [(za, .inr (13, [.int 0, .ref z1, .int (nI z2), .int (nI z3), .int z4, .int z5, .ref z6, .ref z7, .ref z8, .ref z9, .int (nI z10), .ref z11, .ref z12, .ref z13, .ref z14, .ref z15, .int (nI z16), .ref z17, .int z18, .ref z19]))]) [0] (by decide) rfl
              have hKc := hK.sub (tys' := []) [] rfl
              have hFc := va_free (wc := [(za, .inr (13, [.int 0, .ref z1, .int (nI z2), .int (nI z3), .int z4, .int z5, .ref z6, .ref z7, .ref z8, .ref z9, .int (nI z10), .ref z11, .ref z12, .ref z13, .ref z14, .ref z15, .int (nI z16), .ref z17, .int z18, .ref z19]))]) hD hS hA [0] rfl
              refine va_calli (va_runV (As := [.int (nI (v15 + 1))]) (rest := []) ⟨hx, hb, hml, hown, hg⟩ (m_done l D H_114.size za 0 z1 (nI z2) (nI z3) z4 z5 z6 z7 z8 z9 (nI z10) z11 z12 z13 z14 z15 (nI z16) z17 z18 z19 (nI (v15 + 1))) (cwV 1 hg (gV wd_730 wd_731 wd_732 wd_717 wd_733) rfl rfl rfl (by decide +kernel) ⟨(Nat.le_trans (Nat.le_of_ble_eq_true rfl) hRf), (Nat.le_trans (Nat.le_of_ble_eq_true rfl) hRl)⟩) ⟨Pr.blind, va_recv hK hP (ci := 13) (q0 := 0) rfl rfl, fun U hU hW => ⟨rfl, Pr.at hPc hKc hDc hN hU hW⟩⟩ rfl rfl hl.1 rfl (lv_room (Nat.le_of_ble_eq_true rfl)) dX13_end_128 ⟨(Nat.le_trans (Nat.le_of_ble_eq_true rfl) hRc), (Nat.le_trans (Nat.le_of_ble_eq_true rfl) hRs)⟩) hS (fun q _ h => hFc q h) hFc (fun r_127 M_128 t H_126 locs ht hvm hw hB hz1 hk1 hS => ?_)
              have hp_129 := hw
              obtain ⟨hP1, hK1, hD1⟩ := hB
              rw [ht] at hP1
              obtain ⟨hP, hD⟩ := va_joinQ (X := [(za, .inr (13, [.int 0, .ref z1, .int (nI z2), .int (nI z3), .int z4, .int z5, .ref z6, .ref z7, .ref z8, .ref z9, .int (nI z10), .ref z11, .ref z12, .ref z13, .ref z14, .ref z15, .int (nI z16), .ref z17, .int z18, .ref z19]))]) (cx := [(za, .inr (13, [.int 0, .ref z1, .int (nI z2), .int (nI z3), .int z4, .int z5, .ref z6, .ref z7, .ref z8, .ref z9, .int (nI z10), .ref z11, .ref z12, .ref z13, .ref z14, .ref z15, .int (nI z16), .ref z17, .int z18, .ref z19]))]) (wr := []) (w1 := [(za, .inr (13, [.int 0, .ref z1, .int (nI z2), .int (nI z3), .int 0, .int (-1), .ref z6, .ref z7, .ref z8, .ref z9, .int (nI z10), .ref z11, .ref z12, .ref z13, .ref z14, .ref z15, .int (nI z16), .ref z17, .int z18, .ref z19]))]) (pl := va_pl L M_122) hP hD [0] [] rfl rfl (by decide) (by decide) hk1 hFc hP1 hD1
              have hP : va_P D vwCl ([(za, .inr (13, [.int 0, .ref z1, .int (nI z2), .int (nI z3), .int 0, .int (-1), .ref z6, .ref z7, .ref z8, .ref z9, .int (nI z10), .ref z11, .ref z12, .ref z13, .ref z14, .ref z15, .int (nI z16), .ref z17, .int z18, .ref z19]))] ++ va_pl L M_122) H_126 := hP
              have hD : va_D A ([(za, .inr (13, [.int 0, .ref z1, .int (nI z2), .int (nI z3), .int 0, .int (-1), .ref z6, .ref z7, .ref z8, .ref z9, .int (nI z10), .ref z11, .ref z12, .ref z13, .ref z14, .ref z15, .int (nI z16), .ref z17, .int z18, .ref z19]))] ++ va_pl L M_122) := hD
              have hq := Eq.symm hp_129
              subst hq
              rw [hQ]
              exact W.iret (v := (nI (v15 + 1))) hx hb hr (fun t ht hW9 => ⟨⟨(nI (v15 + 1)), M_122, rfl, ⟨hW, hF, hG, trivial⟩, ⟨0, (-1), by rw [ht]; exact hP, hD⟩⟩, hS.F ht⟩) hS.2.2 dX13_end_131
            · have hz := rfl (a := 0)
              have n_130 : ¬ k2 < 0 := gtN (c := (v82 + 99)) (by omega) (Int32.not_le.mp c_100)
              refine lv_aload_n hx hb dX13_end_81 rfl (lv_at hl 2 rfl) ?_
              refine lv_iconst (v := 3) hx hb dX13_end_82 (by decide) ?_
              have hPc := hP.sub (ws' := [(za, .inr (13, [.int 0, .ref z1, .int (nI z2), .int (nI z3), .int z4, .int z5, .ref z6, .ref z7, .ref z8, .ref z9, .int (nI z10), .ref z11, .ref z12, .ref z13, .ref z14, .ref z15, .int (nI z16), .ref z17, .int z18, .ref z19]))]) [0] rfl
              have hDc := hD.sub (ws' := [(za, .inr (13, [.int 0, .ref z1, .int (nI z2), .int (nI z3), .int z4, .int z5, .ref z6, .ref z7, .ref z8, .ref z9, .int (nI z10), .ref z11, .ref z12, .ref z13, .ref z14, .ref z15, .int (nI z16), .ref z17, .int z18, .ref z19]))]) [0] (by decide) rfl
              have hKc := hK.sub (tys' := []) [] rfl
              have hFc := va_free (wc := [(za, .inr (13, [.int 0, .ref z1, .int (nI z2), .int (nI z3), .int z4, .int z5, .ref z6, .ref z7, .ref z8, .ref z9, .int (nI z10), .ref z11, .ref z12, .ref z13, .ref z14, .ref z15, .int (nI z16), .ref z17, .int z18, .ref z19]))]) hD hS hA [0] rfl
              refine va_calli (va_runV (As := [.int 3]) (rest := []) ⟨hx, hb, hml, hown, hg⟩ (m_refused l D H_2.size za 0 z1 (nI z2) (nI z3) z4 z5 z6 z7 z8 z9 (nI z10) z11 z12 z13 z14 z15 (nI z16) z17 z18 z19 3) (cwV 1 hg (gV wd_725 wd_726 wd_727 wd_717 wd_728) rfl rfl rfl (by decide +kernel) ⟨(Nat.le_trans (Nat.le_of_ble_eq_true rfl) hRf), (Nat.le_trans (Nat.le_of_ble_eq_true rfl) hRl)⟩) ⟨Pr.blind, va_recv hK hP (ci := 13) (q0 := 0) rfl rfl, fun U hU hW => ⟨rfl, Pr.at hPc hKc hDc hN hU hW⟩⟩ rfl rfl hl.1 rfl (lv_room (Nat.le_of_ble_eq_true rfl)) dX13_end_83 ⟨(Nat.le_trans (Nat.le_of_ble_eq_true rfl) hRc), (Nat.le_trans (Nat.le_of_ble_eq_true rfl) hRs)⟩) hS (fun q _ h => hFc q h) hFc (fun r_132 M_133 t H_131 locs ht hvm hw hB hz1 hk1 hS => ?_)
              have hp_134 := hw
              obtain ⟨hP1, hK1, hD1⟩ := hB
              rw [ht] at hP1
              obtain ⟨hP, hD⟩ := va_joinQ (X := [(za, .inr (13, [.int 0, .ref z1, .int (nI z2), .int (nI z3), .int z4, .int z5, .ref z6, .ref z7, .ref z8, .ref z9, .int (nI z10), .ref z11, .ref z12, .ref z13, .ref z14, .ref z15, .int (nI z16), .ref z17, .int z18, .ref z19]))]) (cx := [(za, .inr (13, [.int 0, .ref z1, .int (nI z2), .int (nI z3), .int z4, .int z5, .ref z6, .ref z7, .ref z8, .ref z9, .int (nI z10), .ref z11, .ref z12, .ref z13, .ref z14, .ref z15, .int (nI z16), .ref z17, .int z18, .ref z19]))]) (wr := []) (w1 := [(za, .inr (13, [.int 0, .ref z1, .int (nI z2), .int (nI z3), .int 3, .int (-1), .ref z6, .ref z7, .ref z8, .ref z9, .int (nI z10), .ref z11, .ref z12, .ref z13, .ref z14, .ref z15, .int (nI z16), .ref z17, .int z18, .ref z19]))]) (pl := va_pl L M) hP hD [0] [] rfl rfl (by decide) (by decide) hk1 hFc hP1 hD1
              have hP : va_P D vwCl ([(za, .inr (13, [.int 0, .ref z1, .int (nI z2), .int (nI z3), .int 3, .int (-1), .ref z6, .ref z7, .ref z8, .ref z9, .int (nI z10), .ref z11, .ref z12, .ref z13, .ref z14, .ref z15, .int (nI z16), .ref z17, .int z18, .ref z19]))] ++ va_pl L M) H_131 := hP
              have hD : va_D A ([(za, .inr (13, [.int 0, .ref z1, .int (nI z2), .int (nI z3), .int 3, .int (-1), .ref z6, .ref z7, .ref z8, .ref z9, .int (nI z10), .ref z11, .ref z12, .ref z13, .ref z14, .ref z15, .int (nI z16), .ref z17, .int z18, .ref z19]))] ++ va_pl L M) := hD
              have hq := Eq.symm hp_134
              subst hq
              rw [hQ]
              exact W.iret (v := (-1)) hx hb hr (fun t ht hW9 => ⟨⟨(-1), M, rfl, ⟨hW, hF, hG, trivial⟩, ⟨3, (-1), by rw [ht]; exact hP, hD⟩⟩, hS.F ht⟩) hS.2.2 dX13_end_86
  · have hz := rfl (a := 0)
    refine lv_if_ne (tgt := 19) hx hb dX13_end_10 (by decide) (fun c_135 => absurd c_135 (by decide)) (fun _ => ?_)
    refine lv_aload_n hx hb dX13_end_13 rfl (lv_at hl 0 rfl) ?_
    refine lv_iconst (v := 1) hx hb dX13_end_14 (by decide) ?_
    have hPc := hP.sub (ws' := [(za, .inr (13, [.int 0, .ref z1, .int (nI z2), .int (nI z3), .int z4, .int z5, .ref z6, .ref z7, .ref z8, .ref z9, .int (nI z10), .ref z11, .ref z12, .ref z13, .ref z14, .ref z15, .int (nI z16), .ref z17, .int z18, .ref z19]))]) [0] rfl
    have hDc := hD.sub (ws' := [(za, .inr (13, [.int 0, .ref z1, .int (nI z2), .int (nI z3), .int z4, .int z5, .ref z6, .ref z7, .ref z8, .ref z9, .int (nI z10), .ref z11, .ref z12, .ref z13, .ref z14, .ref z15, .int (nI z16), .ref z17, .int z18, .ref z19]))]) [0] (by decide) rfl
    have hKc := hK.sub (tys' := []) [] rfl
    have hFc := va_free (wc := [(za, .inr (13, [.int 0, .ref z1, .int (nI z2), .int (nI z3), .int z4, .int z5, .ref z6, .ref z7, .ref z8, .ref z9, .int (nI z10), .ref z11, .ref z12, .ref z13, .ref z14, .ref z15, .int (nI z16), .ref z17, .int z18, .ref z19]))]) hD hS hA [0] rfl
    refine va_calli (va_runV (As := [.int 1]) (rest := []) ⟨hx, hb, hml, hown, hg⟩ (m_refused l D H_2.size za 0 z1 (nI z2) (nI z3) z4 z5 z6 z7 z8 z9 (nI z10) z11 z12 z13 z14 z15 (nI z16) z17 z18 z19 1) (cwV 1 hg (gV wd_725 wd_726 wd_727 wd_717 wd_728) rfl rfl rfl (by decide +kernel) ⟨(Nat.le_trans (Nat.le_of_ble_eq_true rfl) hRf), (Nat.le_trans (Nat.le_of_ble_eq_true rfl) hRl)⟩) ⟨Pr.blind, va_recv hK hP (ci := 13) (q0 := 0) rfl rfl, fun U hU hW => ⟨rfl, Pr.at hPc hKc hDc hN hU hW⟩⟩ rfl rfl hl.1 rfl (lv_room (Nat.le_of_ble_eq_true rfl)) dX13_end_15 ⟨(Nat.le_trans (Nat.le_of_ble_eq_true rfl) hRc), (Nat.le_trans (Nat.le_of_ble_eq_true rfl) hRs)⟩) hS (fun q _ h => hFc q h) hFc (fun r_137 M_138 t H_136 locs ht hvm hw hB hz1 hk1 hS => ?_)
    have hp_139 := hw
    obtain ⟨hP1, hK1, hD1⟩ := hB
    rw [ht] at hP1
    obtain ⟨hP, hD⟩ := va_joinQ (X := [(za, .inr (13, [.int 0, .ref z1, .int (nI z2), .int (nI z3), .int z4, .int z5, .ref z6, .ref z7, .ref z8, .ref z9, .int (nI z10), .ref z11, .ref z12, .ref z13, .ref z14, .ref z15, .int (nI z16), .ref z17, .int z18, .ref z19]))]) (cx := [(za, .inr (13, [.int 0, .ref z1, .int (nI z2), .int (nI z3), .int z4, .int z5, .ref z6, .ref z7, .ref z8, .ref z9, .int (nI z10), .ref z11, .ref z12, .ref z13, .ref z14, .ref z15, .int (nI z16), .ref z17, .int z18, .ref z19]))]) (wr := []) (w1 := [(za, .inr (13, [.int 0, .ref z1, .int (nI z2), .int (nI z3), .int 1, .int (-1), .ref z6, .ref z7, .ref z8, .ref z9, .int (nI z10), .ref z11, .ref z12, .ref z13, .ref z14, .ref z15, .int (nI z16), .ref z17, .int z18, .ref z19]))]) (pl := va_pl L M) hP hD [0] [] rfl rfl (by decide) (by decide) hk1 hFc hP1 hD1
    have hP : va_P D vwCl ([(za, .inr (13, [.int 0, .ref z1, .int (nI z2), .int (nI z3), .int 1, .int (-1), .ref z6, .ref z7, .ref z8, .ref z9, .int (nI z10), .ref z11, .ref z12, .ref z13, .ref z14, .ref z15, .int (nI z16), .ref z17, .int z18, .ref z19]))] ++ va_pl L M) H_136 := hP
    have hD : va_D A ([(za, .inr (13, [.int 0, .ref z1, .int (nI z2), .int (nI z3), .int 1, .int (-1), .ref z6, .ref z7, .ref z8, .ref z9, .int (nI z10), .ref z11, .ref z12, .ref z13, .ref z14, .ref z15, .int (nI z16), .ref z17, .int z18, .ref z19]))] ++ va_pl L M) := hD
    have hq := Eq.symm hp_139
    subst hq
    rw [hQ]
    exact W.iret (v := (-1)) hx hb hr (fun t ht hW9 => ⟨⟨(-1), M, rfl, ⟨hW, hF, hG, trivial⟩, ⟨1, (-1), by rw [ht]; exact hP, hD⟩⟩, hS.F ht⟩) hS.2.2 dX13_end_18
set_option maxHeartbeats 4000000 in
set_option maxRecDepth 100000 in
theorem r_X13_mend (l : Launch) (D : va_G) (cy : Nat → ClassId) (K : Kp) (L : List Nat) (M : Hp) (sz : Nat) (za : Nat) (z0 : Int32) (z1 : Nat) (z2 : Nat) (z3 : Nat) (z4 : Int32) (z5 : Int32) (z6 : Nat) (z7 : Nat) (z8 : Nat) (z9 : Nat) (z10 : Nat) (z11 : Nat) (z12 : Nat) (z13 : Nat) (z14 : Nat) (z15 : Nat) (z16 : Nat) (z17 : Nat) (z18 : Int32) (z19 : Nat) (k1 : Int32) (k2 : Int32) (k3 : Int32) (hW : WOM cy K L M) (i1 : isk K L z1 23 8) (b2 : z2 ≤ 8) (b3 : z3 ≤ 40) (i6 : isk K L z6 47 40) (i7 : isk K L z7 48 40) (i8 : isk K L z8 49 8) (i9 : isk K L z9 50 8) (b10 : z10 ≤ 8) (i11 : isk K L z11 32 24) (i12 : isk K L z12 14 24) (i13 : isk K L z13 15 24) (i14 : isk K L z14 15 24) (i15 : isk K L z15 15 24) (b16 : z16 ≤ 24) (i17 : isk K L z17 14 24) (i19 : isk K L z19 15 25) : Met l yX13_mend (wsM yX13_mend cX13_mend 5 (some .int)) ({ frames := 1, cells := 0, slots := 0, locals := 21 }) (va_Pc [.ref za, .int k1, .int k2, .int k3] (PG D cy [(za, .inr (13, [.int z0, .ref z1, .int (nI z2), .int (nI z3), .int z4, .int z5, .ref z6, .ref z7, .ref z8, .ref z9, .int (nI z10), .ref z11, .ref z12, .ref z13, .ref z14, .ref z15, .int (nI z16), .ref z17, .int z18, .ref z19]))] L M sz)) (va_Qi (fun (r : Int32) (M9 : Hp) => WOM cy K L M9 ∧ fr K L [12, 14, 44, 82] M M9 ∧ fG K L [15] M M9 ∧ (True)) (fun M9 t => ∃ (w4 : Int32) (w5 : Int32), PQ D [(za, .inr (13, [.int 0, .ref z1, .int (nI z2), .int (nI z3), .int w4, .int w5, .ref z6, .ref z7, .ref z8, .ref z9, .int (nI z10), .ref z11, .ref z12, .ref z13, .ref z14, .ref z15, .int (nI z16), .ref z17, .int z18, .ref z19]))] L M9 (va_A ([(za, .inr (13, [.int z0, .ref z1, .int (nI z2), .int (nI z3), .int z4, .int z5, .ref z6, .ref z7, .ref z8, .ref z9, .int (nI z10), .ref z11, .ref z12, .ref z13, .ref z14, .ref z15, .int (nI z16), .ref z17, .int z18, .ref z19]))] ++ va_pl L M) sz) t) (va_A ([(za, .inr (13, [.int z0, .ref z1, .int (nI z2), .int (nI z3), .int z4, .int z5, .ref z6, .ref z7, .ref z8, .ref z9, .int (nI z10), .ref z11, .ref z12, .ref z13, .ref z14, .ref z15, .int (nI z16), .ref z17, .int z18, .ref z19]))] ++ va_pl L M) sz)) 0 0 (va_A ([(za, .inr (13, [.int z0, .ref z1, .int (nI z2), .int (nI z3), .int z4, .int z5, .ref z6, .ref z7, .ref z8, .ref z9, .int (nI z10), .ref z11, .ref z12, .ref z13, .ref z14, .ref z15, .int (nI z16), .ref z17, .int z18, .ref z19]))] ++ va_pl L M) sz) := by
  refine Met.ofW (cc := cX13_mend) (maxL := 5) (ret := (some .int)) (by decide) rfl ?_
  intro p e s m args below meth c s₁ B hml hv
  obtain ⟨rfl, hsz, hP, hK, hD0, hN⟩ := hv
  have hx := B.exec
  have hb := B.bytes
  have hr := B.returns
  have hts := atoms_spec (ws := (wsM yX13_mend cX13_mend 5 (some .int))) B.pre
  have hg : ∀ w ∈ lw_good, w.before _ s = true := fun w h => hts w (List.mem_cons_of_mem _ h)
  have hown : s.vm.findClass RX13 = some m.cls := findClass_of_methodNamed B.named
  have hlocks := B.notSynchronized
  subst hsz
  have hD := hD0.self (sz := s.heap.size)
  generalize hAe : va_A ([(za, .inr (13, [.int z0, .ref z1, .int (nI z2), .int (nI z3), .int z4, .int z5, .ref z6, .ref z7, .ref z8, .ref z9, .int (nI z10), .ref z11, .ref z12, .ref z13, .ref z14, .ref z15, .int (nI z16), .ref z17, .int z18, .ref z19]))] ++ va_pl L M) s.heap.size = A at hD ⊢
  have hA : ∀ q : Nat, s.heap.size ≤ q → A q := fun q h => by rw [← hAe]; exact Or.inr h
  have hS : va_S A s.heap s.heap [] := va_S.rf
  have hl := lv_entry ([.ref za, .int k1, .int k2, .int k3]) (n := 5) (Nat.le_of_ble_eq_true rfl)
  rw [lg_entry_eq]
  generalize (lg_sl ([.ref za, .int k1, .int k2, .int k3]) ++ List.replicate (5 - (lg_sl ([.ref za, .int k1, .int k2, .int k3])).length) Slot.unset).toArray = ls at hl ⊢
  refine W.nameQ (fun Q hQ => ?_)
  refine W.nameR (fun R hR => ?_)
  have hRf : 1 ≤ R.frames := by rw [hR]; exact Nat.le_of_ble_eq_true rfl
  have hRl : 21 ≤ R.locals := by rw [hR]; exact Nat.le_of_ble_eq_true rfl
  have hRc : 0 ≤ R.cells := by rw [hR]; exact Nat.le_of_ble_eq_true rfl
  have hRs : 0 ≤ R.slots := by rw [hR]; exact Nat.le_of_ble_eq_true rfl
  have hF : fr K L [12, 14, 44, 82] M M := fr.rf
  have hG : fG K L [15] M M := fG.rf
  have hl : lv_has ls 5 [(0, .ref za), (1, .int k1), (2, .int k2), (3, .int k3)] := hl
  refine lv_aload_n hx hb dX13_mend_0 rfl (lv_at hl 0 rfl) ?_
  refine lv_iconst (v := 0) hx hb dX13_mend_1 (by decide) ?_
  refine va_put (D := D) (ci := 13) (v := .int 0) (ty := .int) (C := RX13) (T := TX13) (N := 20) hx hb hg inG13 tyX13 tyX13_ok nmX13 hown hK hP hD hS 0 rfl rfl 0 (by decide) (hg _ wd_720) (fun _ h9 => h9) rfl (by decide +kernel) rfl rfl (Nat.le_of_ble_eq_true rfl) dX13_mend_2 (fun H_1 locs hP hD hS => ?_)
  have hP : va_P D vwCl ([(za, .inr (13, [.int 0, .ref z1, .int (nI z2), .int (nI z3), .int z4, .int z5, .ref z6, .ref z7, .ref z8, .ref z9, .int (nI z10), .ref z11, .ref z12, .ref z13, .ref z14, .ref z15, .int (nI z16), .ref z17, .int z18, .ref z19]))] ++ va_pl L M) H_1 := hP
  have hD : va_D A ([(za, .inr (13, [.int 0, .ref z1, .int (nI z2), .int (nI z3), .int z4, .int z5, .ref z6, .ref z7, .ref z8, .ref z9, .int (nI z10), .ref z11, .ref z12, .ref z13, .ref z14, .ref z15, .int (nI z16), .ref z17, .int z18, .ref z19]))] ++ va_pl L M) := hD
  refine lv_aload_n hx hb dX13_mend_5 rfl (lv_at hl 0 rfl) ?_
  refine lv_iload_n hx hb dX13_mend_6 rfl (lv_at hl 1 rfl) ?_
  have hPc : va_P D vwCl ([(za, .inr (13, [.int 0, .ref z1, .int (nI z2), .int (nI z3), .int z4, .int z5, .ref z6, .ref z7, .ref z8, .ref z9, .int (nI z10), .ref z11, .ref z12, .ref z13, .ref z14, .ref z15, .int (nI z16), .ref z17, .int z18, .ref z19]))] ++ va_pl L M) H_1 := hP
  have hDc : va_D A ([(za, .inr (13, [.int 0, .ref z1, .int (nI z2), .int (nI z3), .int z4, .int z5, .ref z6, .ref z7, .ref z8, .ref z9, .int (nI z10), .ref z11, .ref z12, .ref z13, .ref z14, .ref z15, .int (nI z16), .ref z17, .int z18, .ref z19]))] ++ va_pl L M) := hD
  have hFc : ∀ q, va_A ([(za, .inr (13, [.int 0, .ref z1, .int (nI z2), .int (nI z3), .int z4, .int z5, .ref z6, .ref z7, .ref z8, .ref z9, .int (nI z10), .ref z11, .ref z12, .ref z13, .ref z14, .ref z15, .int (nI z16), .ref z17, .int z18, .ref z19]))] ++ va_pl L M) H_1.size q → A q := pg_free hDc hS hA
  refine va_calli (va_runV (As := [.int k1]) (rest := []) ⟨hx, hb, hml, hown, hg⟩ (r_X13_isHouse l D cy K L M H_1.size za 0 z1 z2 z3 z4 z5 z6 z7 z8 z9 z10 z11 z12 z13 z14 z15 z16 z17 z18 z19 k1  hW i1 b2 b3 i6 i7 i8 i9 b10 i11 i12 i13 i14 i15 b16 i17 i19) (cwV 1 hg (gV wd_714 wd_715 wd_716 wd_717 wd_718) rfl rfl rfl (by decide +kernel) ⟨(Nat.le_trans (Nat.le_of_ble_eq_true rfl) hRf), (Nat.le_trans (Nat.le_of_ble_eq_true rfl) hRl)⟩) ⟨PG.blind, va_recv hK hP (ci := 13) (q0 := 0) rfl rfl, fun U hU hW => ⟨rfl, PG.at hPc hK hDc hN hU hW⟩⟩ rfl rfl hl.1 rfl (lv_room (Nat.le_of_ble_eq_true rfl)) dX13_mend_7 ⟨(Nat.le_trans (Nat.le_of_ble_eq_true rfl) hRc), (Nat.le_trans (Nat.le_of_ble_eq_true rfl) hRs)⟩) hS (fun q _ h => hFc q h) hFc (fun r_3 M_4 t H_2 locs ht hvm hw hB hz1 hk1 hS => ?_)
  have hp_5 := hw
  obtain ⟨hP1, hD1⟩ := hB
  rw [ht] at hP1
  have hP : va_P D vwCl ([(za, .inr (13, [.int 0, .ref z1, .int (nI z2), .int (nI z3), .int z4, .int z5, .ref z6, .ref z7, .ref z8, .ref z9, .int (nI z10), .ref z11, .ref z12, .ref z13, .ref z14, .ref z15, .int (nI z16), .ref z17, .int z18, .ref z19]))] ++ va_pl L M) H_2 := hP1
  have hD : va_D A ([(za, .inr (13, [.int 0, .ref z1, .int (nI z2), .int (nI z3), .int z4, .int z5, .ref z6, .ref z7, .ref z8, .ref z9, .int (nI z10), .ref z11, .ref z12, .ref z13, .ref z14, .ref z15, .int (nI z16), .ref z17, .int z18, .ref z19]))] ++ va_pl L M) := hD1.mono hFc
  rcases hp_5 with ⟨rfl, c_6, c_7⟩ | rfl
  · have hz := rfl (a := 0)
    refine lv_if_ne (tgt := 19) hx hb dX13_mend_10 (by decide) (fun _ => ?_) (fun c_8 => absurd c_8 (by decide))
    refine lv_iload_n hx hb dX13_mend_19 rfl (lv_at hl 3 rfl) ?_
    refine lv_if_eq (tgt := 35) hx hb dX13_mend_20 (by decide) (fun c_9 => ?_) (fun c_9 => ?_)
    · have hz := rfl (a := 0)
      refine lv_aload_n hx hb dX13_mend_35 rfl (lv_at hl 0 rfl) ?_
      refine lv_iconst (v := 2) hx hb dX13_mend_36 (by decide) ?_
      have hPc := hP.sub (ws' := [(za, .inr (13, [.int 0, .ref z1, .int (nI z2), .int (nI z3), .int z4, .int z5, .ref z6, .ref z7, .ref z8, .ref z9, .int (nI z10), .ref z11, .ref z12, .ref z13, .ref z14, .ref z15, .int (nI z16), .ref z17, .int z18, .ref z19]))]) [0] rfl
      have hDc := hD.sub (ws' := [(za, .inr (13, [.int 0, .ref z1, .int (nI z2), .int (nI z3), .int z4, .int z5, .ref z6, .ref z7, .ref z8, .ref z9, .int (nI z10), .ref z11, .ref z12, .ref z13, .ref z14, .ref z15, .int (nI z16), .ref z17, .int z18, .ref z19]))]) [0] (by decide) rfl
      have hKc := hK.sub (tys' := []) [] rfl
      have hFc := va_free (wc := [(za, .inr (13, [.int 0, .ref z1, .int (nI z2), .int (nI z3), .int z4, .int z5, .ref z6, .ref z7, .ref z8, .ref z9, .int (nI z10), .ref z11, .ref z12, .ref z13, .ref z14, .ref z15, .int (nI z16), .ref z17, .int z18, .ref z19]))]) hD hS hA [0] rfl
      refine va_calli (va_runV (As := [.int 2]) (rest := []) ⟨hx, hb, hml, hown, hg⟩ (m_refused l D H_2.size za 0 z1 (nI z2) (nI z3) z4 z5 z6 z7 z8 z9 (nI z10) z11 z12 z13 z14 z15 (nI z16) z17 z18 z19 2) (cwV 1 hg (gV wd_725 wd_726 wd_727 wd_717 wd_728) rfl rfl rfl (by decide +kernel) ⟨(Nat.le_trans (Nat.le_of_ble_eq_true rfl) hRf), (Nat.le_trans (Nat.le_of_ble_eq_true rfl) hRl)⟩) ⟨Pr.blind, va_recv hK hP (ci := 13) (q0 := 0) rfl rfl, fun U hU hW => ⟨rfl, Pr.at hPc hKc hDc hN hU hW⟩⟩ rfl rfl hl.1 rfl (lv_room (Nat.le_of_ble_eq_true rfl)) dX13_mend_37 ⟨(Nat.le_trans (Nat.le_of_ble_eq_true rfl) hRc), (Nat.le_trans (Nat.le_of_ble_eq_true rfl) hRs)⟩) hS (fun q _ h => hFc q h) hFc (fun r_11 M_12 t H_10 locs ht hvm hw hB hz1 hk1 hS => ?_)
      have hp_13 := hw
      obtain ⟨hP1, hK1, hD1⟩ := hB
      rw [ht] at hP1
      obtain ⟨hP, hD⟩ := va_joinQ (X := [(za, .inr (13, [.int 0, .ref z1, .int (nI z2), .int (nI z3), .int z4, .int z5, .ref z6, .ref z7, .ref z8, .ref z9, .int (nI z10), .ref z11, .ref z12, .ref z13, .ref z14, .ref z15, .int (nI z16), .ref z17, .int z18, .ref z19]))]) (cx := [(za, .inr (13, [.int 0, .ref z1, .int (nI z2), .int (nI z3), .int z4, .int z5, .ref z6, .ref z7, .ref z8, .ref z9, .int (nI z10), .ref z11, .ref z12, .ref z13, .ref z14, .ref z15, .int (nI z16), .ref z17, .int z18, .ref z19]))]) (wr := []) (w1 := [(za, .inr (13, [.int 0, .ref z1, .int (nI z2), .int (nI z3), .int 2, .int (-1), .ref z6, .ref z7, .ref z8, .ref z9, .int (nI z10), .ref z11, .ref z12, .ref z13, .ref z14, .ref z15, .int (nI z16), .ref z17, .int z18, .ref z19]))]) (pl := va_pl L M) hP hD [0] [] rfl rfl (by decide) (by decide) hk1 hFc hP1 hD1
      have hP : va_P D vwCl ([(za, .inr (13, [.int 0, .ref z1, .int (nI z2), .int (nI z3), .int 2, .int (-1), .ref z6, .ref z7, .ref z8, .ref z9, .int (nI z10), .ref z11, .ref z12, .ref z13, .ref z14, .ref z15, .int (nI z16), .ref z17, .int z18, .ref z19]))] ++ va_pl L M) H_10 := hP
      have hD : va_D A ([(za, .inr (13, [.int 0, .ref z1, .int (nI z2), .int (nI z3), .int 2, .int (-1), .ref z6, .ref z7, .ref z8, .ref z9, .int (nI z10), .ref z11, .ref z12, .ref z13, .ref z14, .ref z15, .int (nI z16), .ref z17, .int z18, .ref z19]))] ++ va_pl L M) := hD
      have hq := Eq.symm hp_13
      subst hq
      rw [hQ]
      exact W.iret (v := (-1)) hx hb hr (fun t ht hW9 => ⟨⟨(-1), M, rfl, ⟨hW, hF, hG, trivial⟩, ⟨2, (-1), by rw [ht]; exact hP, hD⟩⟩, hS.F ht⟩) hS.2.2 dX13_mend_40
    · have hz := rfl (a := 0)
      refine lv_iload_n hx hb dX13_mend_23 rfl (lv_at hl 3 rfl) ?_
      refine lv_ldc (v := 1000000000) hx hb hown (hg _ wd_712) dX13_mend_24 ?_
      refine lv_icmp_gt (tgt := 35) hx hb dX13_mend_26 (by decide) (fun c_14 => ?_) (fun c_14 => ?_)
      · have hz := rfl (a := 0)
        have n_15 : ¬ k3 < 0 := gtN (c := 1000000000) (by omega) c_14
        refine lv_aload_n hx hb dX13_mend_35 rfl (lv_at hl 0 rfl) ?_
        refine lv_iconst (v := 2) hx hb dX13_mend_36 (by decide) ?_
        have hPc := hP.sub (ws' := [(za, .inr (13, [.int 0, .ref z1, .int (nI z2), .int (nI z3), .int z4, .int z5, .ref z6, .ref z7, .ref z8, .ref z9, .int (nI z10), .ref z11, .ref z12, .ref z13, .ref z14, .ref z15, .int (nI z16), .ref z17, .int z18, .ref z19]))]) [0] rfl
        have hDc := hD.sub (ws' := [(za, .inr (13, [.int 0, .ref z1, .int (nI z2), .int (nI z3), .int z4, .int z5, .ref z6, .ref z7, .ref z8, .ref z9, .int (nI z10), .ref z11, .ref z12, .ref z13, .ref z14, .ref z15, .int (nI z16), .ref z17, .int z18, .ref z19]))]) [0] (by decide) rfl
        have hKc := hK.sub (tys' := []) [] rfl
        have hFc := va_free (wc := [(za, .inr (13, [.int 0, .ref z1, .int (nI z2), .int (nI z3), .int z4, .int z5, .ref z6, .ref z7, .ref z8, .ref z9, .int (nI z10), .ref z11, .ref z12, .ref z13, .ref z14, .ref z15, .int (nI z16), .ref z17, .int z18, .ref z19]))]) hD hS hA [0] rfl
        refine va_calli (va_runV (As := [.int 2]) (rest := []) ⟨hx, hb, hml, hown, hg⟩ (m_refused l D H_2.size za 0 z1 (nI z2) (nI z3) z4 z5 z6 z7 z8 z9 (nI z10) z11 z12 z13 z14 z15 (nI z16) z17 z18 z19 2) (cwV 1 hg (gV wd_725 wd_726 wd_727 wd_717 wd_728) rfl rfl rfl (by decide +kernel) ⟨(Nat.le_trans (Nat.le_of_ble_eq_true rfl) hRf), (Nat.le_trans (Nat.le_of_ble_eq_true rfl) hRl)⟩) ⟨Pr.blind, va_recv hK hP (ci := 13) (q0 := 0) rfl rfl, fun U hU hW => ⟨rfl, Pr.at hPc hKc hDc hN hU hW⟩⟩ rfl rfl hl.1 rfl (lv_room (Nat.le_of_ble_eq_true rfl)) dX13_mend_37 ⟨(Nat.le_trans (Nat.le_of_ble_eq_true rfl) hRc), (Nat.le_trans (Nat.le_of_ble_eq_true rfl) hRs)⟩) hS (fun q _ h => hFc q h) hFc (fun r_17 M_18 t H_16 locs ht hvm hw hB hz1 hk1 hS => ?_)
        have hp_19 := hw
        obtain ⟨hP1, hK1, hD1⟩ := hB
        rw [ht] at hP1
        obtain ⟨hP, hD⟩ := va_joinQ (X := [(za, .inr (13, [.int 0, .ref z1, .int (nI z2), .int (nI z3), .int z4, .int z5, .ref z6, .ref z7, .ref z8, .ref z9, .int (nI z10), .ref z11, .ref z12, .ref z13, .ref z14, .ref z15, .int (nI z16), .ref z17, .int z18, .ref z19]))]) (cx := [(za, .inr (13, [.int 0, .ref z1, .int (nI z2), .int (nI z3), .int z4, .int z5, .ref z6, .ref z7, .ref z8, .ref z9, .int (nI z10), .ref z11, .ref z12, .ref z13, .ref z14, .ref z15, .int (nI z16), .ref z17, .int z18, .ref z19]))]) (wr := []) (w1 := [(za, .inr (13, [.int 0, .ref z1, .int (nI z2), .int (nI z3), .int 2, .int (-1), .ref z6, .ref z7, .ref z8, .ref z9, .int (nI z10), .ref z11, .ref z12, .ref z13, .ref z14, .ref z15, .int (nI z16), .ref z17, .int z18, .ref z19]))]) (pl := va_pl L M) hP hD [0] [] rfl rfl (by decide) (by decide) hk1 hFc hP1 hD1
        have hP : va_P D vwCl ([(za, .inr (13, [.int 0, .ref z1, .int (nI z2), .int (nI z3), .int 2, .int (-1), .ref z6, .ref z7, .ref z8, .ref z9, .int (nI z10), .ref z11, .ref z12, .ref z13, .ref z14, .ref z15, .int (nI z16), .ref z17, .int z18, .ref z19]))] ++ va_pl L M) H_16 := hP
        have hD : va_D A ([(za, .inr (13, [.int 0, .ref z1, .int (nI z2), .int (nI z3), .int 2, .int (-1), .ref z6, .ref z7, .ref z8, .ref z9, .int (nI z10), .ref z11, .ref z12, .ref z13, .ref z14, .ref z15, .int (nI z16), .ref z17, .int z18, .ref z19]))] ++ va_pl L M) := hD
        have hq := Eq.symm hp_19
        subst hq
        rw [hQ]
        exact W.iret (v := (-1)) hx hb hr (fun t ht hW9 => ⟨⟨(-1), M, rfl, ⟨hW, hF, hG, trivial⟩, ⟨2, (-1), by rw [ht]; exact hP, hD⟩⟩, hS.F ht⟩) hS.2.2 dX13_mend_40
      · have hz := rfl (a := 0)
        refine lv_iload_n hx hb dX13_mend_29 rfl (lv_at hl 3 rfl) ?_
        refine lv_ldc (v := (-1000000000)) hx hb hown (hg _ wd_822) dX13_mend_30 ?_
        refine lv_icmp_ge (tgt := 41) hx hb dX13_mend_32 (by decide) (fun c_20 => ?_) (fun c_20 => ?_)
        · have hz := rfl (a := 0)
          refine lv_aload_n hx hb dX13_mend_41 rfl (lv_at hl 0 rfl) ?_
          refine va_get (D := D) (ci := 13) (v := .ref z1) (C := RX13) (T := TX13) (N := 20) hx hb hg inG13 hown hK hP 0 rfl rfl 1 (by decide) (hg _ wd_739) (fun _ h9 => h9) rfl dX13_mend_42 ?_
          refine lv_iload_n hx hb dX13_mend_45 rfl (lv_at hl 1 rfl) ?_
          obtain ⟨f21, hM21, hf21⟩ := hW.open_23 i1
          have hi_22 : vp_in k1 8 := (inbW (a := z2) (by omega) (inb k1 z2 (by omega) c_6 c_7))
          refine pg_aldq hx hb hK hP i1.1 9 hM21 rfl hi_22 dX13_mend_46 ?_
          obtain ⟨b23, eb_24, hb_25⟩ := hf21 _ (vp_lt hi_22)
          rw [eb_24]
          refine lv_astore (lv' := [(4, .ref b23), (0, .ref za), (1, .int k1), (2, .int k2), (3, .int k3)]) hx hb dX13_mend_47 hl (by decide) rfl (fun ls hl => ?_)
          refine lv_iload_n hx hb dX13_mend_49 rfl (lv_at hl 3 rfl) ?_
          refine lv_aload hx hb dX13_mend_50 (lv_at hl 0 rfl) ?_
          obtain ⟨fs26, hM26, hn26, hl26⟩ := hW.open_12 hb_25
          obtain ⟨v27, hv27, hc27⟩ : ∃ v : Nat, fs26[0]? = some (.int (nI v) : Value) ∧ v ≤ 999 := hl26 0 (by decide)
          refine pg_getN (D := D) (ci := 12) (v := .int (nI v27)) (C := RX12) (T := TX12) (N := 51) hx hb hg inG12 hown hK hP hb_25.1 hM26 rfl 0 (by decide) (hN.use (Cond.fieldLinkNest RX13 77 RX12 "first" "I" RX13) 9 rfl rfl) (fun _ h9 => h9) hv27 dX13_mend_52 ?_
          refine lv_icmp_lt (tgt := 67) hx hb dX13_mend_55 (by decide) (fun c_28 => ?_) (fun c_28 => ?_)
          · have hz := rfl (a := 0)
            have n_29 : ¬ 999 ≤ k2 := ltB (b := 999) (by decide) hc27 c_28
            refine lv_aload_n hx hb dX13_mend_67 rfl (lv_at hl 1 rfl) ?_
            refine lv_iconst (v := 3) hx hb dX13_mend_68 (by decide) ?_
            have hPc := hP.sub (ws' := [(za, .inr (13, [.int 0, .ref z1, .int (nI z2), .int (nI z3), .int z4, .int z5, .ref z6, .ref z7, .ref z8, .ref z9, .int (nI z10), .ref z11, .ref z12, .ref z13, .ref z14, .ref z15, .int (nI z16), .ref z17, .int z18, .ref z19]))]) [0] rfl
            have hDc := hD.sub (ws' := [(za, .inr (13, [.int 0, .ref z1, .int (nI z2), .int (nI z3), .int z4, .int z5, .ref z6, .ref z7, .ref z8, .ref z9, .int (nI z10), .ref z11, .ref z12, .ref z13, .ref z14, .ref z15, .int (nI z16), .ref z17, .int z18, .ref z19]))]) [0] (by decide) rfl
            have hKc := hK.sub (tys' := []) [] rfl
            have hFc := va_free (wc := [(za, .inr (13, [.int 0, .ref z1, .int (nI z2), .int (nI z3), .int z4, .int z5, .ref z6, .ref z7, .ref z8, .ref z9, .int (nI z10), .ref z11, .ref z12, .ref z13, .ref z14, .ref z15, .int (nI z16), .ref z17, .int z18, .ref z19]))]) hD hS hA [0] rfl
            refine va_calli (va_runV (As := [.int 3]) (rest := []) ⟨hx, hb, hml, hown, hg⟩ (m_refused l D H_2.size za 0 z1 (nI z2) (nI z3) z4 z5 z6 z7 z8 z9 (nI z10) z11 z12 z13 z14 z15 (nI z16) z17 z18 z19 3) (cwV 1 hg (gV wd_725 wd_726 wd_727 wd_717 wd_728) rfl rfl rfl (by decide +kernel) ⟨(Nat.le_trans (Nat.le_of_ble_eq_true rfl) hRf), (Nat.le_trans (Nat.le_of_ble_eq_true rfl) hRl)⟩) ⟨Pr.blind, va_recv hK hP (ci := 13) (q0 := 0) rfl rfl, fun U hU hW => ⟨rfl, Pr.at hPc hKc hDc hN hU hW⟩⟩ rfl rfl hl.1 rfl (lv_room (Nat.le_of_ble_eq_true rfl)) dX13_mend_69 ⟨(Nat.le_trans (Nat.le_of_ble_eq_true rfl) hRc), (Nat.le_trans (Nat.le_of_ble_eq_true rfl) hRs)⟩) hS (fun q _ h => hFc q h) hFc (fun r_31 M_32 t H_30 locs ht hvm hw hB hz1 hk1 hS => ?_)
            have hp_33 := hw
            obtain ⟨hP1, hK1, hD1⟩ := hB
            rw [ht] at hP1
            obtain ⟨hP, hD⟩ := va_joinQ (X := [(za, .inr (13, [.int 0, .ref z1, .int (nI z2), .int (nI z3), .int z4, .int z5, .ref z6, .ref z7, .ref z8, .ref z9, .int (nI z10), .ref z11, .ref z12, .ref z13, .ref z14, .ref z15, .int (nI z16), .ref z17, .int z18, .ref z19]))]) (cx := [(za, .inr (13, [.int 0, .ref z1, .int (nI z2), .int (nI z3), .int z4, .int z5, .ref z6, .ref z7, .ref z8, .ref z9, .int (nI z10), .ref z11, .ref z12, .ref z13, .ref z14, .ref z15, .int (nI z16), .ref z17, .int z18, .ref z19]))]) (wr := []) (w1 := [(za, .inr (13, [.int 0, .ref z1, .int (nI z2), .int (nI z3), .int 3, .int (-1), .ref z6, .ref z7, .ref z8, .ref z9, .int (nI z10), .ref z11, .ref z12, .ref z13, .ref z14, .ref z15, .int (nI z16), .ref z17, .int z18, .ref z19]))]) (pl := va_pl L M) hP hD [0] [] rfl rfl (by decide) (by decide) hk1 hFc hP1 hD1
            have hP : va_P D vwCl ([(za, .inr (13, [.int 0, .ref z1, .int (nI z2), .int (nI z3), .int 3, .int (-1), .ref z6, .ref z7, .ref z8, .ref z9, .int (nI z10), .ref z11, .ref z12, .ref z13, .ref z14, .ref z15, .int (nI z16), .ref z17, .int z18, .ref z19]))] ++ va_pl L M) H_30 := hP
            have hD : va_D A ([(za, .inr (13, [.int 0, .ref z1, .int (nI z2), .int (nI z3), .int 3, .int (-1), .ref z6, .ref z7, .ref z8, .ref z9, .int (nI z10), .ref z11, .ref z12, .ref z13, .ref z14, .ref z15, .int (nI z16), .ref z17, .int z18, .ref z19]))] ++ va_pl L M) := hD
            have hq := Eq.symm hp_33
            subst hq
            rw [hQ]
            exact W.iret (v := (-1)) hx hb hr (fun t ht hW9 => ⟨⟨(-1), M, rfl, ⟨hW, hF, hG, trivial⟩, ⟨3, (-1), by rw [ht]; exact hP, hD⟩⟩, hS.F ht⟩) hS.2.2 dX13_mend_72
          · have hz := rfl (a := 0)
            refine lv_iload_n hx hb dX13_mend_58 rfl (lv_at hl 3 rfl) ?_
            refine lv_aload hx hb dX13_mend_59 (lv_at hl 0 rfl) ?_
            obtain ⟨v34, hv34, hc34⟩ : ∃ v : Int32, fs26[1]? = some (.int v : Value) ∧ (v = (-1) ∨ ∃ c : Nat, c < 1000 ∧ v = nI c) := hl26 1 (by decide)
            refine pg_getN (D := D) (ci := 12) (v := .int v34) (C := RX12) (T := TX12) (N := 51) hx hb hg inG12 hown hK hP hb_25.1 hM26 rfl 1 (by decide) (hN.use (Cond.fieldLinkNest RX13 80 RX12 "to" "I" RX13) 10 rfl rfl) (fun _ h9 => h9) hv34 dX13_mend_61 ?_
            rcases hc34 with rfl | ⟨c_35, hc_36, rfl⟩
            · have hz := rfl (a := 0)
              refine lv_icmp_le (tgt := 73) hx hb dX13_mend_64 (by decide) (fun c_37 => ?_) (fun c_37 => ?_)
              · have hz := rfl (a := 0)
                refine lv_aload hx hb dX13_mend_73 (lv_at hl 0 rfl) ?_
                obtain ⟨v38, hv38, hc38⟩ : ∃ v : Nat, fs26[15]? = some (.int (nI v) : Value) ∧ v ≤ 20 := hl26 15 (by decide)
                refine pg_getN (D := D) (ci := 12) (v := .int (nI v38)) (C := RX12) (T := TX12) (N := 51) hx hb hg inG12 hown hK hP hb_25.1 hM26 rfl 15 (by decide) (hN.use (Cond.fieldLinkNest RX13 279 RX12 "mends" "I" RX13) 24 rfl rfl) (fun _ h9 => h9) hv38 dX13_mend_75 ?_
                refine lv_bipush (v := 20) hx hb dX13_mend_78 (by decide) ?_
                refine lv_icmp_ne (tgt := 90) hx hb dX13_mend_80 (by decide) (fun c_39 => ?_) (fun c_39 => ?_)
                · have hz := rfl (a := 0)
                  have n_40 : ¬ (v38 = 20) := fun q => c_39 ((iEQ (a := v38) (b := 20) (by omega) (by omega)).mpr q)
                  refine lv_aload hx hb dX13_mend_90 (lv_at hl 0 rfl) ?_
                  obtain ⟨v41, hv41, hc41⟩ : ∃ v : Nat, fs26[41]? = some (.ref v : Value) ∧ isk K L v 44 20 := hl26 41 (by decide)
                  refine pg_getN (D := D) (ci := 12) (v := .ref v41) (C := RX12) (T := TX12) (N := 51) hx hb hg inG12 hown hK hP hb_25.1 hM26 rfl 41 (by decide) (hN.use (Cond.fieldLinkNest RX13 358 RX12 "mendDay" "[I" RX13) 50 rfl rfl) (fun _ h9 => h9) hv41 dX13_mend_92 ?_
                  refine lv_aload hx hb dX13_mend_95 (lv_at hl 0 rfl) ?_
                  refine pg_getN (D := D) (ci := 12) (v := .int (nI v38)) (C := RX12) (T := TX12) (N := 51) hx hb hg inG12 hown hK hP hb_25.1 hM26 rfl 15 (by decide) (hN.use (Cond.fieldLinkNest RX13 279 RX12 "mends" "I" RX13) 24 rfl rfl) (fun _ h9 => h9) hv38 dX13_mend_97 ?_
                  refine lv_iload_n hx hb dX13_mend_100 rfl (lv_at hl 3 rfl) ?_
                  obtain ⟨j_42, hj_43, rfl⟩ := i32nat 0 (by decide) (geN (n := v27) (by omega) (Int32.not_lt.mp c_28)) (m1B c_37)
                  obtain ⟨f44, hM44, hf44⟩ := hW.open_44 hc41
                  refine pg_iast hx hb hK hP hD hS hc41.1 0 hM44 rfl (inbN v38 20 (by omega) (by omega)) dX13_mend_101 (fun H_45 locs hP hD hS => ?_)
                  obtain ⟨M_46, eM_46⟩ : ∃ M1 : Hp, M1 = va_up M v41 (.inl (cy 14, 20, .inl (upd f44 ((nI v38) : Int32).toNatClampNeg (nI j_42)))) := ⟨_, rfl⟩
                  have hP : va_P D vwCl ([(za, .inr (13, [.int 0, .ref z1, .int (nI z2), .int (nI z3), .int z4, .int z5, .ref z6, .ref z7, .ref z8, .ref z9, .int (nI z10), .ref z11, .ref z12, .ref z13, .ref z14, .ref z15, .int (nI z16), .ref z17, .int z18, .ref z19]))] ++ va_pl L M_46) H_45 := by rw [eM_46]; exact hP
                  have hD : va_D A ([(za, .inr (13, [.int 0, .ref z1, .int (nI z2), .int (nI z3), .int z4, .int z5, .ref z6, .ref z7, .ref z8, .ref z9, .int (nI z10), .ref z11, .ref z12, .ref z13, .ref z14, .ref z15, .int (nI z16), .ref z17, .int z18, .ref z19]))] ++ va_pl L M_46) := by rw [eM_46]; exact hD
                  have hW : WOM cy K L M_46 := by rw [eM_46]; exact hW.up_44 hc41 ⟨_, rfl, (updP (P := fun z => ∃ c : Nat, c < 1000 ∧ z = nI c) hf44 ⟨j_42, by omega, rfl⟩)⟩
                  have hF : fr K L [12, 14, 44, 82] M M_46 := by rw [eM_46]; exact hF.up hc41 (by decide)
                  have hG : fG K L [15] M M_46 := by rw [eM_46]; exact hG.arr hc41 (by decide)
                  have hM_47 : M_46 v41 = .inl (cy 14, 20, .inl (upd f44 ((nI v38) : Int32).toNatClampNeg (nI j_42))) := by rw [eM_46]; exact va_up_self _ _ _
                  have hM_48 : M_46 z1 = .inl (cy 23, 8, .inr (.inr (.inr (.inr (f21))))) := by rw [eM_46, va_up_ne _ _ (i1.neT hc41 (by decide))]; exact hM21
                  have hM_49 : M_46 b23 = .inr (12, fs26) := by rw [eM_46, va_up_ne _ _ (hb_25.neT hc41 (by decide))]; exact hM26
                  have hf_51 : ∀ j, j < 20 → ∃ c : Nat, c < 1000 ∧ (upd f44 ((nI v38) : Int32).toNatClampNeg (nI j_42)) j = nI c := (updP (P := fun z => ∃ c : Nat, c < 1000 ∧ z = nI c) hf44 ⟨j_42, by omega, rfl⟩)
                  obtain ⟨f_50, ef_50⟩ : ∃ f : Nat → Int32, f = upd f44 ((nI v38) : Int32).toNatClampNeg (nI j_42) := ⟨_, rfl⟩
                  rw [← ef_50] at hM_47 hf_51
                  clear ef_50
                  refine lv_aload hx hb dX13_mend_102 (lv_at hl 0 rfl) ?_
                  obtain ⟨v52, hv52, hc52⟩ : ∃ v : Nat, fs26[42]? = some (.ref v : Value) ∧ isk K L v 82 20 := hl26 42 (by decide)
                  refine pg_getN (D := D) (ci := 12) (v := .ref v52) (C := RX12) (T := TX12) (N := 51) hx hb hg inG12 hown hK hP hb_25.1 hM_49 rfl 42 (by decide) (hN.use (Cond.fieldLinkNest RX13 361 RX12 "mendSum" "[I" RX13) 51 rfl rfl) (fun _ h9 => h9) hv52 dX13_mend_104 ?_
                  refine lv_aload hx hb dX13_mend_107 (lv_at hl 0 rfl) ?_
                  refine pg_getN (D := D) (ci := 12) (v := .int (nI v38)) (C := RX12) (T := TX12) (N := 51) hx hb hg inG12 hown hK hP hb_25.1 hM_49 rfl 15 (by decide) (hN.use (Cond.fieldLinkNest RX13 279 RX12 "mends" "I" RX13) 24 rfl rfl) (fun _ h9 => h9) hv38 dX13_mend_109 ?_
                  refine lv_iload_n hx hb dX13_mend_112 rfl (lv_at hl 4 rfl) ?_
                  obtain ⟨f53, hM53⟩ := hW.open_82 hc52
                  refine pg_iast hx hb hK hP hD hS hc52.1 0 hM53 rfl (inbN v38 20 (by omega) (by omega)) dX13_mend_113 (fun H_54 locs hP hD hS => ?_)
                  obtain ⟨M_55, eM_55⟩ : ∃ M1 : Hp, M1 = va_up M_46 v52 (.inl (cy 14, 20, .inl (upd f53 ((nI v38) : Int32).toNatClampNeg k3))) := ⟨_, rfl⟩
                  have hP : va_P D vwCl ([(za, .inr (13, [.int 0, .ref z1, .int (nI z2), .int (nI z3), .int z4, .int z5, .ref z6, .ref z7, .ref z8, .ref z9, .int (nI z10), .ref z11, .ref z12, .ref z13, .ref z14, .ref z15, .int (nI z16), .ref z17, .int z18, .ref z19]))] ++ va_pl L M_55) H_54 := by rw [eM_55]; exact hP
                  have hD : va_D A ([(za, .inr (13, [.int 0, .ref z1, .int (nI z2), .int (nI z3), .int z4, .int z5, .ref z6, .ref z7, .ref z8, .ref z9, .int (nI z10), .ref z11, .ref z12, .ref z13, .ref z14, .ref z15, .int (nI z16), .ref z17, .int z18, .ref z19]))] ++ va_pl L M_55) := by rw [eM_55]; exact hD
                  have hW : WOM cy K L M_55 := by rw [eM_55]; exact hW.up_82 hc52 ⟨_, rfl⟩
                  have hF : fr K L [12, 14, 44, 82] M M_55 := by rw [eM_55]; exact hF.up hc52 (by decide)
                  have hG : fG K L [15] M M_55 := by rw [eM_55]; exact hG.arr hc52 (by decide)
                  have hM_56 : M_55 v52 = .inl (cy 14, 20, .inl (upd f53 ((nI v38) : Int32).toNatClampNeg k3)) := by rw [eM_55]; exact va_up_self _ _ _
                  have hM_57 : M_55 v41 = .inl (cy 14, 20, .inl (f_50)) := by rw [eM_55, va_up_ne _ _ (hc41.neT hc52 (by decide))]; exact hM_47
                  have hM_58 : M_55 z1 = .inl (cy 23, 8, .inr (.inr (.inr (.inr (f21))))) := by rw [eM_55, va_up_ne _ _ (i1.neT hc52 (by decide))]; exact hM_48
                  have hM_59 : M_55 b23 = .inr (12, fs26) := by rw [eM_55, va_up_ne _ _ (hb_25.neT hc52 (by decide))]; exact hM_49
                  obtain ⟨f_60, ef_60⟩ : ∃ f : Nat → Int32, f = upd f53 ((nI v38) : Int32).toNatClampNeg k3 := ⟨_, rfl⟩
                  rw [← ef_60] at hM_56
                  clear ef_60
                  refine lv_aload hx hb dX13_mend_114 (lv_at hl 0 rfl) ?_
                  refine lv_dup hx hb dX13_mend_116 rfl ?_
                  refine pg_getN (D := D) (ci := 12) (v := .int (nI v38)) (C := RX12) (T := TX12) (N := 51) hx hb hg inG12 hown hK hP hb_25.1 hM_59 rfl 15 (by decide) (hN.use (Cond.fieldLinkNest RX13 279 RX12 "mends" "I" RX13) 24 rfl rfl) (fun _ h9 => h9) hv38 dX13_mend_117 ?_
                  refine lv_iconst (v := 1) hx hb dX13_mend_120 (by decide) ?_
                  refine lv_iadd hx hb dX13_mend_121 ?_
                  refine lv_topi (fun f_61 ef_61 => ?_)
                  obtain rfl : f_61 = (nI (v38 + 1)) := ef_61.trans (nI_add v38 1)
                  refine pg_putN (D := D) (ci := 12) (v := .int (nI (v38 + 1))) (ty := .int) (C := RX12) (T := TX12) (N := 51) hx hb hg inG12 tyX12 tyX12_ok nmX12 hown hK hP hD hS hb_25.1 hM_59 rfl 15 (by decide) (hN.use (Cond.fieldLinkNest RX13 279 RX12 "mends" "I" RX13) 24 rfl rfl) (fun _ h9 => h9) rfl (by decide +kernel) rfl rfl (by rw [hn26]; decide) dX13_mend_122 (fun H_62 locs hP hD hS => ?_)
                  have hs_65 : (fs26.set 15 (.int (nI (v38 + 1))))[15]? = some (.int (nI (v38 + 1))) := List.getElem?_set_self (by rw [hn26]; decide)
                  have hk_64 := fld12_set (k := 15) (w := .int (nI (v38 + 1))) hl26 (show fld12 K L 15 (fs26.set 15 (.int (nI (v38 + 1)))) from ⟨(v38 + 1), hs_65, by omega⟩)
                  have hn_66 : (fs26.set 15 (.int (nI (v38 + 1)))).length = 51 := by rw [List.length_set]; exact hn26
                  have hv_67 : (fs26.set 15 (.int (nI (v38 + 1))))[0]? = some (.int (nI v27)) := by rw [List.getElem?_set_ne (by decide)]; exact hv27
                  have hv_68 : (fs26.set 15 (.int (nI (v38 + 1))))[1]? = some (.int (-1)) := by rw [List.getElem?_set_ne (by decide)]; exact hv34
                  have hv_69 : (fs26.set 15 (.int (nI (v38 + 1))))[41]? = some (.ref v41) := by rw [List.getElem?_set_ne (by decide)]; exact hv41
                  have hv_70 : (fs26.set 15 (.int (nI (v38 + 1))))[42]? = some (.ref v52) := by rw [List.getElem?_set_ne (by decide)]; exact hv52
                  have hb_71 : (v38 + 1) ≤ 20 := by omega
                  obtain ⟨M_72, eM_72⟩ : ∃ M1 : Hp, M1 = va_up M_55 b23 (.inr (12, fs26.set 15 (.int (nI (v38 + 1))))) := ⟨_, rfl⟩
                  have hP : va_P D vwCl ([(za, .inr (13, [.int 0, .ref z1, .int (nI z2), .int (nI z3), .int z4, .int z5, .ref z6, .ref z7, .ref z8, .ref z9, .int (nI z10), .ref z11, .ref z12, .ref z13, .ref z14, .ref z15, .int (nI z16), .ref z17, .int z18, .ref z19]))] ++ va_pl L M_72) H_62 := by rw [eM_72]; exact hP
                  have hD : va_D A ([(za, .inr (13, [.int 0, .ref z1, .int (nI z2), .int (nI z3), .int z4, .int z5, .ref z6, .ref z7, .ref z8, .ref z9, .int (nI z10), .ref z11, .ref z12, .ref z13, .ref z14, .ref z15, .int (nI z16), .ref z17, .int z18, .ref z19]))] ++ va_pl L M_72) := by rw [eM_72]; exact hD
                  have hW : WOM cy K L M_72 := by rw [eM_72]; exact hW.up_12 hb_25 ⟨_, rfl, hn_66, hk_64⟩
                  have hF : fr K L [12, 14, 44, 82] M M_72 := by rw [eM_72]; exact hF.up hb_25 (by decide)
                  have hG : fG K L [15] M M_72 := by rw [eM_72]; exact hG.up hM_59 (by decide)
                  have hM_73 : M_72 b23 = .inr (12, fs26.set 15 (.int (nI (v38 + 1)))) := by rw [eM_72]; exact va_up_self _ _ _
                  have hM_74 : M_72 v52 = .inl (cy 14, 20, .inl (f_60)) := by rw [eM_72, va_up_ne _ _ (hc52.neT hb_25 (by decide))]; exact hM_56
                  have hM_75 : M_72 v41 = .inl (cy 14, 20, .inl (f_50)) := by rw [eM_72, va_up_ne _ _ (hc41.neT hb_25 (by decide))]; exact hM_57
                  have hM_76 : M_72 z1 = .inl (cy 23, 8, .inr (.inr (.inr (.inr (f21))))) := by rw [eM_72, va_up_ne _ _ (i1.neT hb_25 (by decide))]; exact hM_58
                  refine lv_aload_n hx hb dX13_mend_125 rfl (lv_at hl 1 rfl) ?_
                  refine lv_aload hx hb dX13_mend_126 (lv_at hl 0 rfl) ?_
                  refine pg_getN (D := D) (ci := 12) (v := .int (nI (v38 + 1))) (C := RX12) (T := TX12) (N := 51) hx hb hg inG12 hown hK hP hb_25.1 hM_73 rfl 15 (by decide) (hN.use (Cond.fieldLinkNest RX13 279 RX12 "mends" "I" RX13) 24 rfl rfl) (fun _ h9 => h9) hs_65 dX13_mend_128 ?_
                  have hPc := hP.sub (ws' := [(za, .inr (13, [.int 0, .ref z1, .int (nI z2), .int (nI z3), .int z4, .int z5, .ref z6, .ref z7, .ref z8, .ref z9, .int (nI z10), .ref z11, .ref z12, .ref z13, .ref z14, .ref z15, .int (nI z16), .ref z17, .int z18, .ref z19]))]) [0] rfl
                  have hDc := hD.sub (ws' := [(za, .inr (13, [.int 0, .ref z1, .int (nI z2), .int (nI z3), .int z4, .int z5, .ref z6, .ref z7, .ref z8, .ref z9, .int (nI z10), .ref z11, .ref z12, .ref z13, .ref z14, .ref z15, .int (nI z16), .ref z17, .int z18, .ref z19]))]) [0] (by decide) rfl
                  have hKc := hK.sub (tys' := []) [] rfl
                  have hFc := va_free (wc := [(za, .inr (13, [.int 0, .ref z1, .int (nI z2), .int (nI z3), .int z4, .int z5, .ref z6, .ref z7, .ref z8, .ref z9, .int (nI z10), .ref z11, .ref z12, .ref z13, .ref z14, .ref z15, .int (nI z16), .ref z17, .int z18, .ref z19]))]) hD hS hA [0] rfl
                  refine va_calli (va_runV (As := [.int (nI (v38 + 1))]) (rest := []) ⟨hx, hb, hml, hown, hg⟩ (m_done l D H_62.size za 0 z1 (nI z2) (nI z3) z4 z5 z6 z7 z8 z9 (nI z10) z11 z12 z13 z14 z15 (nI z16) z17 z18 z19 (nI (v38 + 1))) (cwV 1 hg (gV wd_730 wd_731 wd_732 wd_717 wd_733) rfl rfl rfl (by decide +kernel) ⟨(Nat.le_trans (Nat.le_of_ble_eq_true rfl) hRf), (Nat.le_trans (Nat.le_of_ble_eq_true rfl) hRl)⟩) ⟨Pr.blind, va_recv hK hP (ci := 13) (q0 := 0) rfl rfl, fun U hU hW => ⟨rfl, Pr.at hPc hKc hDc hN hU hW⟩⟩ rfl rfl hl.1 rfl (lv_room (Nat.le_of_ble_eq_true rfl)) dX13_mend_131 ⟨(Nat.le_trans (Nat.le_of_ble_eq_true rfl) hRc), (Nat.le_trans (Nat.le_of_ble_eq_true rfl) hRs)⟩) hS (fun q _ h => hFc q h) hFc (fun r_78 M_79 t H_77 locs ht hvm hw hB hz1 hk1 hS => ?_)
                  have hp_80 := hw
                  obtain ⟨hP1, hK1, hD1⟩ := hB
                  rw [ht] at hP1
                  obtain ⟨hP, hD⟩ := va_joinQ (X := [(za, .inr (13, [.int 0, .ref z1, .int (nI z2), .int (nI z3), .int z4, .int z5, .ref z6, .ref z7, .ref z8, .ref z9, .int (nI z10), .ref z11, .ref z12, .ref z13, .ref z14, .ref z15, .int (nI z16), .ref z17, .int z18, .ref z19]))]) (cx := [(za, .inr (13, [.int 0, .ref z1, .int (nI z2), .int (nI z3), .int z4, .int z5, .ref z6, .ref z7, .ref z8, .ref z9, .int (nI z10), .ref z11, .ref z12, .ref z13, .ref z14, .ref z15, .int (nI z16), .ref z17, .int z18, .ref z19]))]) (wr := []) (w1 := [(za, .inr (13, [.int 0, .ref z1, .int (nI z2), .int (nI z3), .int 0, .int (-1), .ref z6, .ref z7, .ref z8, .ref z9, .int (nI z10), .ref z11, .ref z12, .ref z13, .ref z14, .ref z15, .int (nI z16), .ref z17, .int z18, .ref z19]))]) (pl := va_pl L M_72) hP hD [0] [] rfl rfl (by decide) (by decide) hk1 hFc hP1 hD1
                  have hP : va_P D vwCl ([(za, .inr (13, [.int 0, .ref z1, .int (nI z2), .int (nI z3), .int 0, .int (-1), .ref z6, .ref z7, .ref z8, .ref z9, .int (nI z10), .ref z11, .ref z12, .ref z13, .ref z14, .ref z15, .int (nI z16), .ref z17, .int z18, .ref z19]))] ++ va_pl L M_72) H_77 := hP
                  have hD : va_D A ([(za, .inr (13, [.int 0, .ref z1, .int (nI z2), .int (nI z3), .int 0, .int (-1), .ref z6, .ref z7, .ref z8, .ref z9, .int (nI z10), .ref z11, .ref z12, .ref z13, .ref z14, .ref z15, .int (nI z16), .ref z17, .int z18, .ref z19]))] ++ va_pl L M_72) := hD
                  have hq := Eq.symm hp_80
                  subst hq
                  rw [hQ]
                  exact W.iret (v := (nI (v38 + 1))) hx hb hr (fun t ht hW9 => ⟨⟨(nI (v38 + 1)), M_72, rfl, ⟨hW, hF, hG, trivial⟩, ⟨0, (-1), by rw [ht]; exact hP, hD⟩⟩, hS.F ht⟩) hS.2.2 dX13_mend_134
                · have hz := rfl (a := 0)
                  have n_81 : v38 = 20 := (iEQ (a := v38) (b := 20) (by omega) (by omega)).mp c_39
                  refine lv_aload_n hx hb dX13_mend_83 rfl (lv_at hl 1 rfl) ?_
                  refine lv_bipush (v := 9) hx hb dX13_mend_84 (by decide) ?_
                  have hPc := hP.sub (ws' := [(za, .inr (13, [.int 0, .ref z1, .int (nI z2), .int (nI z3), .int z4, .int z5, .ref z6, .ref z7, .ref z8, .ref z9, .int (nI z10), .ref z11, .ref z12, .ref z13, .ref z14, .ref z15, .int (nI z16), .ref z17, .int z18, .ref z19]))]) [0] rfl
                  have hDc := hD.sub (ws' := [(za, .inr (13, [.int 0, .ref z1, .int (nI z2), .int (nI z3), .int z4, .int z5, .ref z6, .ref z7, .ref z8, .ref z9, .int (nI z10), .ref z11, .ref z12, .ref z13, .ref z14, .ref z15, .int (nI z16), .ref z17, .int z18, .ref z19]))]) [0] (by decide) rfl
                  have hKc := hK.sub (tys' := []) [] rfl
                  have hFc := va_free (wc := [(za, .inr (13, [.int 0, .ref z1, .int (nI z2), .int (nI z3), .int z4, .int z5, .ref z6, .ref z7, .ref z8, .ref z9, .int (nI z10), .ref z11, .ref z12, .ref z13, .ref z14, .ref z15, .int (nI z16), .ref z17, .int z18, .ref z19]))]) hD hS hA [0] rfl
                  refine va_calli (va_runV (As := [.int 9]) (rest := []) ⟨hx, hb, hml, hown, hg⟩ (m_refused l D H_2.size za 0 z1 (nI z2) (nI z3) z4 z5 z6 z7 z8 z9 (nI z10) z11 z12 z13 z14 z15 (nI z16) z17 z18 z19 9) (cwV 1 hg (gV wd_725 wd_726 wd_727 wd_717 wd_728) rfl rfl rfl (by decide +kernel) ⟨(Nat.le_trans (Nat.le_of_ble_eq_true rfl) hRf), (Nat.le_trans (Nat.le_of_ble_eq_true rfl) hRl)⟩) ⟨Pr.blind, va_recv hK hP (ci := 13) (q0 := 0) rfl rfl, fun U hU hW => ⟨rfl, Pr.at hPc hKc hDc hN hU hW⟩⟩ rfl rfl hl.1 rfl (lv_room (Nat.le_of_ble_eq_true rfl)) dX13_mend_86 ⟨(Nat.le_trans (Nat.le_of_ble_eq_true rfl) hRc), (Nat.le_trans (Nat.le_of_ble_eq_true rfl) hRs)⟩) hS (fun q _ h => hFc q h) hFc (fun r_83 M_84 t H_82 locs ht hvm hw hB hz1 hk1 hS => ?_)
                  have hp_85 := hw
                  obtain ⟨hP1, hK1, hD1⟩ := hB
                  rw [ht] at hP1
                  obtain ⟨hP, hD⟩ := va_joinQ (X := [(za, .inr (13, [.int 0, .ref z1, .int (nI z2), .int (nI z3), .int z4, .int z5, .ref z6, .ref z7, .ref z8, .ref z9, .int (nI z10), .ref z11, .ref z12, .ref z13, .ref z14, .ref z15, .int (nI z16), .ref z17, .int z18, .ref z19]))]) (cx := [(za, .inr (13, [.int 0, .ref z1, .int (nI z2), .int (nI z3), .int z4, .int z5, .ref z6, .ref z7, .ref z8, .ref z9, .int (nI z10), .ref z11, .ref z12, .ref z13, .ref z14, .ref z15, .int (nI z16), .ref z17, .int z18, .ref z19]))]) (wr := []) (w1 := [(za, .inr (13, [.int 0, .ref z1, .int (nI z2), .int (nI z3), .int 9, .int (-1), .ref z6, .ref z7, .ref z8, .ref z9, .int (nI z10), .ref z11, .ref z12, .ref z13, .ref z14, .ref z15, .int (nI z16), .ref z17, .int z18, .ref z19]))]) (pl := va_pl L M) hP hD [0] [] rfl rfl (by decide) (by decide) hk1 hFc hP1 hD1
                  have hP : va_P D vwCl ([(za, .inr (13, [.int 0, .ref z1, .int (nI z2), .int (nI z3), .int 9, .int (-1), .ref z6, .ref z7, .ref z8, .ref z9, .int (nI z10), .ref z11, .ref z12, .ref z13, .ref z14, .ref z15, .int (nI z16), .ref z17, .int z18, .ref z19]))] ++ va_pl L M) H_82 := hP
                  have hD : va_D A ([(za, .inr (13, [.int 0, .ref z1, .int (nI z2), .int (nI z3), .int 9, .int (-1), .ref z6, .ref z7, .ref z8, .ref z9, .int (nI z10), .ref z11, .ref z12, .ref z13, .ref z14, .ref z15, .int (nI z16), .ref z17, .int z18, .ref z19]))] ++ va_pl L M) := hD
                  have hq := Eq.symm hp_85
                  subst hq
                  rw [hQ]
                  exact W.iret (v := (-1)) hx hb hr (fun t ht hW9 => ⟨⟨(-1), M, rfl, ⟨hW, hF, hG, trivial⟩, ⟨9, (-1), by rw [ht]; exact hP, hD⟩⟩, hS.F ht⟩) hS.2.2 dX13_mend_89
              · have hz := rfl (a := 0)
                have n_86 : ¬ k2 < 0 := gtM (Int32.not_le.mp c_37)
                refine lv_aload_n hx hb dX13_mend_67 rfl (lv_at hl 1 rfl) ?_
                refine lv_iconst (v := 3) hx hb dX13_mend_68 (by decide) ?_
                have hPc := hP.sub (ws' := [(za, .inr (13, [.int 0, .ref z1, .int (nI z2), .int (nI z3), .int z4, .int z5, .ref z6, .ref z7, .ref z8, .ref z9, .int (nI z10), .ref z11, .ref z12, .ref z13, .ref z14, .ref z15, .int (nI z16), .ref z17, .int z18, .ref z19]))]) [0] rfl
                have hDc := hD.sub (ws' := [(za, .inr (13, [.int 0, .ref z1, .int (nI z2), .int (nI z3), .int z4, .int z5, .ref z6, .ref z7, .ref z8, .ref z9, .int (nI z10), .ref z11, .ref z12, .ref z13, .ref z14, .ref z15, .int (nI z16), .ref z17, .int z18, .ref z19]))]) [0] (by decide) rfl
                have hKc := hK.sub (tys' := []) [] rfl
                have hFc := va_free (wc := [(za, .inr (13, [.int 0, .ref z1, .int (nI z2), .int (nI z3), .int z4, .int z5, .ref z6, .ref z7, .ref z8, .ref z9, .int (nI z10), .ref z11, .ref z12, .ref z13, .ref z14, .ref z15, .int (nI z16), .ref z17, .int z18, .ref z19]))]) hD hS hA [0] rfl
                refine va_calli (va_runV (As := [.int 3]) (rest := []) ⟨hx, hb, hml, hown, hg⟩ (m_refused l D H_2.size za 0 z1 (nI z2) (nI z3) z4 z5 z6 z7 z8 z9 (nI z10) z11 z12 z13 z14 z15 (nI z16) z17 z18 z19 3) (cwV 1 hg (gV wd_725 wd_726 wd_727 wd_717 wd_728) rfl rfl rfl (by decide +kernel) ⟨(Nat.le_trans (Nat.le_of_ble_eq_true rfl) hRf), (Nat.le_trans (Nat.le_of_ble_eq_true rfl) hRl)⟩) ⟨Pr.blind, va_recv hK hP (ci := 13) (q0 := 0) rfl rfl, fun U hU hW => ⟨rfl, Pr.at hPc hKc hDc hN hU hW⟩⟩ rfl rfl hl.1 rfl (lv_room (Nat.le_of_ble_eq_true rfl)) dX13_mend_69 ⟨(Nat.le_trans (Nat.le_of_ble_eq_true rfl) hRc), (Nat.le_trans (Nat.le_of_ble_eq_true rfl) hRs)⟩) hS (fun q _ h => hFc q h) hFc (fun r_88 M_89 t H_87 locs ht hvm hw hB hz1 hk1 hS => ?_)
                have hp_90 := hw
                obtain ⟨hP1, hK1, hD1⟩ := hB
                rw [ht] at hP1
                obtain ⟨hP, hD⟩ := va_joinQ (X := [(za, .inr (13, [.int 0, .ref z1, .int (nI z2), .int (nI z3), .int z4, .int z5, .ref z6, .ref z7, .ref z8, .ref z9, .int (nI z10), .ref z11, .ref z12, .ref z13, .ref z14, .ref z15, .int (nI z16), .ref z17, .int z18, .ref z19]))]) (cx := [(za, .inr (13, [.int 0, .ref z1, .int (nI z2), .int (nI z3), .int z4, .int z5, .ref z6, .ref z7, .ref z8, .ref z9, .int (nI z10), .ref z11, .ref z12, .ref z13, .ref z14, .ref z15, .int (nI z16), .ref z17, .int z18, .ref z19]))]) (wr := []) (w1 := [(za, .inr (13, [.int 0, .ref z1, .int (nI z2), .int (nI z3), .int 3, .int (-1), .ref z6, .ref z7, .ref z8, .ref z9, .int (nI z10), .ref z11, .ref z12, .ref z13, .ref z14, .ref z15, .int (nI z16), .ref z17, .int z18, .ref z19]))]) (pl := va_pl L M) hP hD [0] [] rfl rfl (by decide) (by decide) hk1 hFc hP1 hD1
                have hP : va_P D vwCl ([(za, .inr (13, [.int 0, .ref z1, .int (nI z2), .int (nI z3), .int 3, .int (-1), .ref z6, .ref z7, .ref z8, .ref z9, .int (nI z10), .ref z11, .ref z12, .ref z13, .ref z14, .ref z15, .int (nI z16), .ref z17, .int z18, .ref z19]))] ++ va_pl L M) H_87 := hP
                have hD : va_D A ([(za, .inr (13, [.int 0, .ref z1, .int (nI z2), .int (nI z3), .int 3, .int (-1), .ref z6, .ref z7, .ref z8, .ref z9, .int (nI z10), .ref z11, .ref z12, .ref z13, .ref z14, .ref z15, .int (nI z16), .ref z17, .int z18, .ref z19]))] ++ va_pl L M) := hD
                have hq := Eq.symm hp_90
                subst hq
                rw [hQ]
                exact W.iret (v := (-1)) hx hb hr (fun t ht hW9 => ⟨⟨(-1), M, rfl, ⟨hW, hF, hG, trivial⟩, ⟨3, (-1), by rw [ht]; exact hP, hD⟩⟩, hS.F ht⟩) hS.2.2 dX13_mend_72
            · have hz := rfl (a := 0)
              refine lv_icmp_le (tgt := 73) hx hb dX13_mend_64 (by decide) (fun c_91 => ?_) (fun c_91 => ?_)
              · have hz := rfl (a := 0)
                refine lv_aload hx hb dX13_mend_73 (lv_at hl 0 rfl) ?_
                obtain ⟨v92, hv92, hc92⟩ : ∃ v : Nat, fs26[15]? = some (.int (nI v) : Value) ∧ v ≤ 20 := hl26 15 (by decide)
                refine pg_getN (D := D) (ci := 12) (v := .int (nI v92)) (C := RX12) (T := TX12) (N := 51) hx hb hg inG12 hown hK hP hb_25.1 hM26 rfl 15 (by decide) (hN.use (Cond.fieldLinkNest RX13 279 RX12 "mends" "I" RX13) 24 rfl rfl) (fun _ h9 => h9) hv92 dX13_mend_75 ?_
                refine lv_bipush (v := 20) hx hb dX13_mend_78 (by decide) ?_
                refine lv_icmp_ne (tgt := 90) hx hb dX13_mend_80 (by decide) (fun c_93 => ?_) (fun c_93 => ?_)
                · have hz := rfl (a := 0)
                  have n_94 : ¬ (v92 = 20) := fun q => c_93 ((iEQ (a := v92) (b := 20) (by omega) (by omega)).mpr q)
                  refine lv_aload hx hb dX13_mend_90 (lv_at hl 0 rfl) ?_
                  obtain ⟨v95, hv95, hc95⟩ : ∃ v : Nat, fs26[41]? = some (.ref v : Value) ∧ isk K L v 44 20 := hl26 41 (by decide)
                  refine pg_getN (D := D) (ci := 12) (v := .ref v95) (C := RX12) (T := TX12) (N := 51) hx hb hg inG12 hown hK hP hb_25.1 hM26 rfl 41 (by decide) (hN.use (Cond.fieldLinkNest RX13 358 RX12 "mendDay" "[I" RX13) 50 rfl rfl) (fun _ h9 => h9) hv95 dX13_mend_92 ?_
                  refine lv_aload hx hb dX13_mend_95 (lv_at hl 0 rfl) ?_
                  refine pg_getN (D := D) (ci := 12) (v := .int (nI v92)) (C := RX12) (T := TX12) (N := 51) hx hb hg inG12 hown hK hP hb_25.1 hM26 rfl 15 (by decide) (hN.use (Cond.fieldLinkNest RX13 279 RX12 "mends" "I" RX13) 24 rfl rfl) (fun _ h9 => h9) hv92 dX13_mend_97 ?_
                  refine lv_iload_n hx hb dX13_mend_100 rfl (lv_at hl 3 rfl) ?_
                  obtain ⟨j_96, hj_97, rfl⟩ := i32nat 1000 (by decide) (geN (n := v27) (by omega) (Int32.not_lt.mp c_28)) (leB (b := 1000) (c := c_35) (by omega) (by decide) c_91)
                  obtain ⟨f98, hM98, hf98⟩ := hW.open_44 hc95
                  refine pg_iast hx hb hK hP hD hS hc95.1 0 hM98 rfl (inbN v92 20 (by omega) (by omega)) dX13_mend_101 (fun H_99 locs hP hD hS => ?_)
                  obtain ⟨M_100, eM_100⟩ : ∃ M1 : Hp, M1 = va_up M v95 (.inl (cy 14, 20, .inl (upd f98 ((nI v92) : Int32).toNatClampNeg (nI j_96)))) := ⟨_, rfl⟩
                  have hP : va_P D vwCl ([(za, .inr (13, [.int 0, .ref z1, .int (nI z2), .int (nI z3), .int z4, .int z5, .ref z6, .ref z7, .ref z8, .ref z9, .int (nI z10), .ref z11, .ref z12, .ref z13, .ref z14, .ref z15, .int (nI z16), .ref z17, .int z18, .ref z19]))] ++ va_pl L M_100) H_99 := by rw [eM_100]; exact hP
                  have hD : va_D A ([(za, .inr (13, [.int 0, .ref z1, .int (nI z2), .int (nI z3), .int z4, .int z5, .ref z6, .ref z7, .ref z8, .ref z9, .int (nI z10), .ref z11, .ref z12, .ref z13, .ref z14, .ref z15, .int (nI z16), .ref z17, .int z18, .ref z19]))] ++ va_pl L M_100) := by rw [eM_100]; exact hD
                  have hW : WOM cy K L M_100 := by rw [eM_100]; exact hW.up_44 hc95 ⟨_, rfl, (updP (P := fun z => ∃ c : Nat, c < 1000 ∧ z = nI c) hf98 ⟨j_96, by omega, rfl⟩)⟩
                  have hF : fr K L [12, 14, 44, 82] M M_100 := by rw [eM_100]; exact hF.up hc95 (by decide)
                  have hG : fG K L [15] M M_100 := by rw [eM_100]; exact hG.arr hc95 (by decide)
                  have hM_101 : M_100 v95 = .inl (cy 14, 20, .inl (upd f98 ((nI v92) : Int32).toNatClampNeg (nI j_96))) := by rw [eM_100]; exact va_up_self _ _ _
                  have hM_102 : M_100 z1 = .inl (cy 23, 8, .inr (.inr (.inr (.inr (f21))))) := by rw [eM_100, va_up_ne _ _ (i1.neT hc95 (by decide))]; exact hM21
                  have hM_103 : M_100 b23 = .inr (12, fs26) := by rw [eM_100, va_up_ne _ _ (hb_25.neT hc95 (by decide))]; exact hM26
                  have hf_105 : ∀ j, j < 20 → ∃ c : Nat, c < 1000 ∧ (upd f98 ((nI v92) : Int32).toNatClampNeg (nI j_96)) j = nI c := (updP (P := fun z => ∃ c : Nat, c < 1000 ∧ z = nI c) hf98 ⟨j_96, by omega, rfl⟩)
                  obtain ⟨f_104, ef_104⟩ : ∃ f : Nat → Int32, f = upd f98 ((nI v92) : Int32).toNatClampNeg (nI j_96) := ⟨_, rfl⟩
                  rw [← ef_104] at hM_101 hf_105
                  clear ef_104
                  refine lv_aload hx hb dX13_mend_102 (lv_at hl 0 rfl) ?_
                  obtain ⟨v106, hv106, hc106⟩ : ∃ v : Nat, fs26[42]? = some (.ref v : Value) ∧ isk K L v 82 20 := hl26 42 (by decide)
                  refine pg_getN (D := D) (ci := 12) (v := .ref v106) (C := RX12) (T := TX12) (N := 51) hx hb hg inG12 hown hK hP hb_25.1 hM_103 rfl 42 (by decide) (hN.use (Cond.fieldLinkNest RX13 361 RX12 "mendSum" "[I" RX13) 51 rfl rfl) (fun _ h9 => h9) hv106 dX13_mend_104 ?_
                  refine lv_aload hx hb dX13_mend_107 (lv_at hl 0 rfl) ?_
                  refine pg_getN (D := D) (ci := 12) (v := .int (nI v92)) (C := RX12) (T := TX12) (N := 51) hx hb hg inG12 hown hK hP hb_25.1 hM_103 rfl 15 (by decide) (hN.use (Cond.fieldLinkNest RX13 279 RX12 "mends" "I" RX13) 24 rfl rfl) (fun _ h9 => h9) hv92 dX13_mend_109 ?_
                  refine lv_iload_n hx hb dX13_mend_112 rfl (lv_at hl 4 rfl) ?_
                  obtain ⟨f107, hM107⟩ := hW.open_82 hc106
                  refine pg_iast hx hb hK hP hD hS hc106.1 0 hM107 rfl (inbN v92 20 (by omega) (by omega)) dX13_mend_113 (fun H_108 locs hP hD hS => ?_)
                  obtain ⟨M_109, eM_109⟩ : ∃ M1 : Hp, M1 = va_up M_100 v106 (.inl (cy 14, 20, .inl (upd f107 ((nI v92) : Int32).toNatClampNeg k3))) := ⟨_, rfl⟩
                  have hP : va_P D vwCl ([(za, .inr (13, [.int 0, .ref z1, .int (nI z2), .int (nI z3), .int z4, .int z5, .ref z6, .ref z7, .ref z8, .ref z9, .int (nI z10), .ref z11, .ref z12, .ref z13, .ref z14, .ref z15, .int (nI z16), .ref z17, .int z18, .ref z19]))] ++ va_pl L M_109) H_108 := by rw [eM_109]; exact hP
                  have hD : va_D A ([(za, .inr (13, [.int 0, .ref z1, .int (nI z2), .int (nI z3), .int z4, .int z5, .ref z6, .ref z7, .ref z8, .ref z9, .int (nI z10), .ref z11, .ref z12, .ref z13, .ref z14, .ref z15, .int (nI z16), .ref z17, .int z18, .ref z19]))] ++ va_pl L M_109) := by rw [eM_109]; exact hD
                  have hW : WOM cy K L M_109 := by rw [eM_109]; exact hW.up_82 hc106 ⟨_, rfl⟩
                  have hF : fr K L [12, 14, 44, 82] M M_109 := by rw [eM_109]; exact hF.up hc106 (by decide)
                  have hG : fG K L [15] M M_109 := by rw [eM_109]; exact hG.arr hc106 (by decide)
                  have hM_110 : M_109 v106 = .inl (cy 14, 20, .inl (upd f107 ((nI v92) : Int32).toNatClampNeg k3)) := by rw [eM_109]; exact va_up_self _ _ _
                  have hM_111 : M_109 v95 = .inl (cy 14, 20, .inl (f_104)) := by rw [eM_109, va_up_ne _ _ (hc95.neT hc106 (by decide))]; exact hM_101
                  have hM_112 : M_109 z1 = .inl (cy 23, 8, .inr (.inr (.inr (.inr (f21))))) := by rw [eM_109, va_up_ne _ _ (i1.neT hc106 (by decide))]; exact hM_102
                  have hM_113 : M_109 b23 = .inr (12, fs26) := by rw [eM_109, va_up_ne _ _ (hb_25.neT hc106 (by decide))]; exact hM_103
                  obtain ⟨f_114, ef_114⟩ : ∃ f : Nat → Int32, f = upd f107 ((nI v92) : Int32).toNatClampNeg k3 := ⟨_, rfl⟩
                  rw [← ef_114] at hM_110
                  clear ef_114
                  refine lv_aload hx hb dX13_mend_114 (lv_at hl 0 rfl) ?_
                  refine lv_dup hx hb dX13_mend_116 rfl ?_
                  refine pg_getN (D := D) (ci := 12) (v := .int (nI v92)) (C := RX12) (T := TX12) (N := 51) hx hb hg inG12 hown hK hP hb_25.1 hM_113 rfl 15 (by decide) (hN.use (Cond.fieldLinkNest RX13 279 RX12 "mends" "I" RX13) 24 rfl rfl) (fun _ h9 => h9) hv92 dX13_mend_117 ?_
                  refine lv_iconst (v := 1) hx hb dX13_mend_120 (by decide) ?_
                  refine lv_iadd hx hb dX13_mend_121 ?_
                  refine lv_topi (fun f_115 ef_115 => ?_)
                  obtain rfl : f_115 = (nI (v92 + 1)) := ef_115.trans (nI_add v92 1)
                  refine pg_putN (D := D) (ci := 12) (v := .int (nI (v92 + 1))) (ty := .int) (C := RX12) (T := TX12) (N := 51) hx hb hg inG12 tyX12 tyX12_ok nmX12 hown hK hP hD hS hb_25.1 hM_113 rfl 15 (by decide) (hN.use (Cond.fieldLinkNest RX13 279 RX12 "mends" "I" RX13) 24 rfl rfl) (fun _ h9 => h9) rfl (by decide +kernel) rfl rfl (by rw [hn26]; decide) dX13_mend_122 (fun H_116 locs hP hD hS => ?_)
                  have hs_119 : (fs26.set 15 (.int (nI (v92 + 1))))[15]? = some (.int (nI (v92 + 1))) := List.getElem?_set_self (by rw [hn26]; decide)
                  have hk_118 := fld12_set (k := 15) (w := .int (nI (v92 + 1))) hl26 (show fld12 K L 15 (fs26.set 15 (.int (nI (v92 + 1)))) from ⟨(v92 + 1), hs_119, by omega⟩)
                  have hn_120 : (fs26.set 15 (.int (nI (v92 + 1)))).length = 51 := by rw [List.length_set]; exact hn26
                  have hv_121 : (fs26.set 15 (.int (nI (v92 + 1))))[0]? = some (.int (nI v27)) := by rw [List.getElem?_set_ne (by decide)]; exact hv27
                  have hv_122 : (fs26.set 15 (.int (nI (v92 + 1))))[1]? = some (.int (nI c_35)) := by rw [List.getElem?_set_ne (by decide)]; exact hv34
                  have hv_123 : (fs26.set 15 (.int (nI (v92 + 1))))[41]? = some (.ref v95) := by rw [List.getElem?_set_ne (by decide)]; exact hv95
                  have hv_124 : (fs26.set 15 (.int (nI (v92 + 1))))[42]? = some (.ref v106) := by rw [List.getElem?_set_ne (by decide)]; exact hv106
                  have hb_125 : (v92 + 1) ≤ 20 := by omega
                  obtain ⟨M_126, eM_126⟩ : ∃ M1 : Hp, M1 = va_up M_109 b23 (.inr (12, fs26.set 15 (.int (nI (v92 + 1))))) := ⟨_, rfl⟩
                  have hP : va_P D vwCl ([(za, .inr (13, [.int 0, .ref z1, .int (nI z2), .int (nI z3), .int z4, .int z5, .ref z6, .ref z7, .ref z8, .ref z9, .int (nI z10), .ref z11, .ref z12, .ref z13, .ref z14, .ref z15, .int (nI z16), .ref z17, .int z18, .ref z19]))] ++ va_pl L M_126) H_116 := by rw [eM_126]; exact hP
                  have hD : va_D A ([(za, .inr (13, [.int 0, .ref z1, .int (nI z2), .int (nI z3), .int z4, .int z5, .ref z6, .ref z7, .ref z8, .ref z9, .int (nI z10), .ref z11, .ref z12, .ref z13, .ref z14, .ref z15, .int (nI z16), .ref z17, .int z18, .ref z19]))] ++ va_pl L M_126) := by rw [eM_126]; exact hD
                  have hW : WOM cy K L M_126 := by rw [eM_126]; exact hW.up_12 hb_25 ⟨_, rfl, hn_120, hk_118⟩
                  have hF : fr K L [12, 14, 44, 82] M M_126 := by rw [eM_126]; exact hF.up hb_25 (by decide)
                  have hG : fG K L [15] M M_126 := by rw [eM_126]; exact hG.up hM_113 (by decide)
                  have hM_127 : M_126 b23 = .inr (12, fs26.set 15 (.int (nI (v92 + 1)))) := by rw [eM_126]; exact va_up_self _ _ _
                  have hM_128 : M_126 v106 = .inl (cy 14, 20, .inl (f_114)) := by rw [eM_126, va_up_ne _ _ (hc106.neT hb_25 (by decide))]; exact hM_110
                  have hM_129 : M_126 v95 = .inl (cy 14, 20, .inl (f_104)) := by rw [eM_126, va_up_ne _ _ (hc95.neT hb_25 (by decide))]; exact hM_111
                  have hM_130 : M_126 z1 = .inl (cy 23, 8, .inr (.inr (.inr (.inr (f21))))) := by rw [eM_126, va_up_ne _ _ (i1.neT hb_25 (by decide))]; exact hM_112
                  refine lv_aload_n hx hb dX13_mend_125 rfl (lv_at hl 1 rfl) ?_
                  refine lv_aload hx hb dX13_mend_126 (lv_at hl 0 rfl) ?_
                  refine pg_getN (D := D) (ci := 12) (v := .int (nI (v92 + 1))) (C := RX12) (T := TX12) (N := 51) hx hb hg inG12 hown hK hP hb_25.1 hM_127 rfl 15 (by decide) (hN.use (Cond.fieldLinkNest RX13 279 RX12 "mends" "I" RX13) 24 rfl rfl) (fun _ h9 => h9) hs_119 dX13_mend_128 ?_
                  have hPc := hP.sub (ws' := [(za, .inr (13, [.int 0, .ref z1, .int (nI z2), .int (nI z3), .int z4, .int z5, .ref z6, .ref z7, .ref z8, .ref z9, .int (nI z10), .ref z11, .ref z12, .ref z13, .ref z14, .ref z15, .int (nI z16), .ref z17, .int z18, .ref z19]))]) [0] rfl
                  have hDc := hD.sub (ws' := [(za, .inr (13, [.int 0, .ref z1, .int (nI z2), .int (nI z3), .int z4, .int z5, .ref z6, .ref z7, .ref z8, .ref z9, .int (nI z10), .ref z11, .ref z12, .ref z13, .ref z14, .ref z15, .int (nI z16), .ref z17, .int z18, .ref z19]))]) [0] (by decide) rfl
                  have hKc := hK.sub (tys' := []) [] rfl
                  have hFc := va_free (wc := [(za, .inr (13, [.int 0, .ref z1, .int (nI z2), .int (nI z3), .int z4, .int z5, .ref z6, .ref z7, .ref z8, .ref z9, .int (nI z10), .ref z11, .ref z12, .ref z13, .ref z14, .ref z15, .int (nI z16), .ref z17, .int z18, .ref z19]))]) hD hS hA [0] rfl
                  refine va_calli (va_runV (As := [.int (nI (v92 + 1))]) (rest := []) ⟨hx, hb, hml, hown, hg⟩ (m_done l D H_116.size za 0 z1 (nI z2) (nI z3) z4 z5 z6 z7 z8 z9 (nI z10) z11 z12 z13 z14 z15 (nI z16) z17 z18 z19 (nI (v92 + 1))) (cwV 1 hg (gV wd_730 wd_731 wd_732 wd_717 wd_733) rfl rfl rfl (by decide +kernel) ⟨(Nat.le_trans (Nat.le_of_ble_eq_true rfl) hRf), (Nat.le_trans (Nat.le_of_ble_eq_true rfl) hRl)⟩) ⟨Pr.blind, va_recv hK hP (ci := 13) (q0 := 0) rfl rfl, fun U hU hW => ⟨rfl, Pr.at hPc hKc hDc hN hU hW⟩⟩ rfl rfl hl.1 rfl (lv_room (Nat.le_of_ble_eq_true rfl)) dX13_mend_131 ⟨(Nat.le_trans (Nat.le_of_ble_eq_true rfl) hRc), (Nat.le_trans (Nat.le_of_ble_eq_true rfl) hRs)⟩) hS (fun q _ h => hFc q h) hFc (fun r_132 M_133 t H_131 locs ht hvm hw hB hz1 hk1 hS => ?_)
                  have hp_134 := hw
                  obtain ⟨hP1, hK1, hD1⟩ := hB
                  rw [ht] at hP1
                  obtain ⟨hP, hD⟩ := va_joinQ (X := [(za, .inr (13, [.int 0, .ref z1, .int (nI z2), .int (nI z3), .int z4, .int z5, .ref z6, .ref z7, .ref z8, .ref z9, .int (nI z10), .ref z11, .ref z12, .ref z13, .ref z14, .ref z15, .int (nI z16), .ref z17, .int z18, .ref z19]))]) (cx := [(za, .inr (13, [.int 0, .ref z1, .int (nI z2), .int (nI z3), .int z4, .int z5, .ref z6, .ref z7, .ref z8, .ref z9, .int (nI z10), .ref z11, .ref z12, .ref z13, .ref z14, .ref z15, .int (nI z16), .ref z17, .int z18, .ref z19]))]) (wr := []) (w1 := [(za, .inr (13, [.int 0, .ref z1, .int (nI z2), .int (nI z3), .int 0, .int (-1), .ref z6, .ref z7, .ref z8, .ref z9, .int (nI z10), .ref z11, .ref z12, .ref z13, .ref z14, .ref z15, .int (nI z16), .ref z17, .int z18, .ref z19]))]) (pl := va_pl L M_126) hP hD [0] [] rfl rfl (by decide) (by decide) hk1 hFc hP1 hD1
                  have hP : va_P D vwCl ([(za, .inr (13, [.int 0, .ref z1, .int (nI z2), .int (nI z3), .int 0, .int (-1), .ref z6, .ref z7, .ref z8, .ref z9, .int (nI z10), .ref z11, .ref z12, .ref z13, .ref z14, .ref z15, .int (nI z16), .ref z17, .int z18, .ref z19]))] ++ va_pl L M_126) H_131 := hP
                  have hD : va_D A ([(za, .inr (13, [.int 0, .ref z1, .int (nI z2), .int (nI z3), .int 0, .int (-1), .ref z6, .ref z7, .ref z8, .ref z9, .int (nI z10), .ref z11, .ref z12, .ref z13, .ref z14, .ref z15, .int (nI z16), .ref z17, .int z18, .ref z19]))] ++ va_pl L M_126) := hD
                  have hq := Eq.symm hp_134
                  subst hq
                  rw [hQ]
                  exact W.iret (v := (nI (v92 + 1))) hx hb hr (fun t ht hW9 => ⟨⟨(nI (v92 + 1)), M_126, rfl, ⟨hW, hF, hG, trivial⟩, ⟨0, (-1), by rw [ht]; exact hP, hD⟩⟩, hS.F ht⟩) hS.2.2 dX13_mend_134
                · have hz := rfl (a := 0)
                  have n_135 : v92 = 20 := (iEQ (a := v92) (b := 20) (by omega) (by omega)).mp c_93
                  refine lv_aload_n hx hb dX13_mend_83 rfl (lv_at hl 1 rfl) ?_
                  refine lv_bipush (v := 9) hx hb dX13_mend_84 (by decide) ?_
                  have hPc := hP.sub (ws' := [(za, .inr (13, [.int 0, .ref z1, .int (nI z2), .int (nI z3), .int z4, .int z5, .ref z6, .ref z7, .ref z8, .ref z9, .int (nI z10), .ref z11, .ref z12, .ref z13, .ref z14, .ref z15, .int (nI z16), .ref z17, .int z18, .ref z19]))]) [0] rfl
                  have hDc := hD.sub (ws' := [(za, .inr (13, [.int 0, .ref z1, .int (nI z2), .int (nI z3), .int z4, .int z5, .ref z6, .ref z7, .ref z8, .ref z9, .int (nI z10), .ref z11, .ref z12, .ref z13, .ref z14, .ref z15, .int (nI z16), .ref z17, .int z18, .ref z19]))]) [0] (by decide) rfl
                  have hKc := hK.sub (tys' := []) [] rfl
                  have hFc := va_free (wc := [(za, .inr (13, [.int 0, .ref z1, .int (nI z2), .int (nI z3), .int z4, .int z5, .ref z6, .ref z7, .ref z8, .ref z9, .int (nI z10), .ref z11, .ref z12, .ref z13, .ref z14, .ref z15, .int (nI z16), .ref z17, .int z18, .ref z19]))]) hD hS hA [0] rfl
                  refine va_calli (va_runV (As := [.int 9]) (rest := []) ⟨hx, hb, hml, hown, hg⟩ (m_refused l D H_2.size za 0 z1 (nI z2) (nI z3) z4 z5 z6 z7 z8 z9 (nI z10) z11 z12 z13 z14 z15 (nI z16) z17 z18 z19 9) (cwV 1 hg (gV wd_725 wd_726 wd_727 wd_717 wd_728) rfl rfl rfl (by decide +kernel) ⟨(Nat.le_trans (Nat.le_of_ble_eq_true rfl) hRf), (Nat.le_trans (Nat.le_of_ble_eq_true rfl) hRl)⟩) ⟨Pr.blind, va_recv hK hP (ci := 13) (q0 := 0) rfl rfl, fun U hU hW => ⟨rfl, Pr.at hPc hKc hDc hN hU hW⟩⟩ rfl rfl hl.1 rfl (lv_room (Nat.le_of_ble_eq_true rfl)) dX13_mend_86 ⟨(Nat.le_trans (Nat.le_of_ble_eq_true rfl) hRc), (Nat.le_trans (Nat.le_of_ble_eq_true rfl) hRs)⟩) hS (fun q _ h => hFc q h) hFc (fun r_137 M_138 t H_136 locs ht hvm hw hB hz1 hk1 hS => ?_)
                  have hp_139 := hw
                  obtain ⟨hP1, hK1, hD1⟩ := hB
                  rw [ht] at hP1
                  obtain ⟨hP, hD⟩ := va_joinQ (X := [(za, .inr (13, [.int 0, .ref z1, .int (nI z2), .int (nI z3), .int z4, .int z5, .ref z6, .ref z7, .ref z8, .ref z9, .int (nI z10), .ref z11, .ref z12, .ref z13, .ref z14, .ref z15, .int (nI z16), .ref z17, .int z18, .ref z19]))]) (cx := [(za, .inr (13, [.int 0, .ref z1, .int (nI z2), .int (nI z3), .int z4, .int z5, .ref z6, .ref z7, .ref z8, .ref z9, .int (nI z10), .ref z11, .ref z12, .ref z13, .ref z14, .ref z15, .int (nI z16), .ref z17, .int z18, .ref z19]))]) (wr := []) (w1 := [(za, .inr (13, [.int 0, .ref z1, .int (nI z2), .int (nI z3), .int 9, .int (-1), .ref z6, .ref z7, .ref z8, .ref z9, .int (nI z10), .ref z11, .ref z12, .ref z13, .ref z14, .ref z15, .int (nI z16), .ref z17, .int z18, .ref z19]))]) (pl := va_pl L M) hP hD [0] [] rfl rfl (by decide) (by decide) hk1 hFc hP1 hD1
                  have hP : va_P D vwCl ([(za, .inr (13, [.int 0, .ref z1, .int (nI z2), .int (nI z3), .int 9, .int (-1), .ref z6, .ref z7, .ref z8, .ref z9, .int (nI z10), .ref z11, .ref z12, .ref z13, .ref z14, .ref z15, .int (nI z16), .ref z17, .int z18, .ref z19]))] ++ va_pl L M) H_136 := hP
                  have hD : va_D A ([(za, .inr (13, [.int 0, .ref z1, .int (nI z2), .int (nI z3), .int 9, .int (-1), .ref z6, .ref z7, .ref z8, .ref z9, .int (nI z10), .ref z11, .ref z12, .ref z13, .ref z14, .ref z15, .int (nI z16), .ref z17, .int z18, .ref z19]))] ++ va_pl L M) := hD
                  have hq := Eq.symm hp_139
                  subst hq
                  rw [hQ]
                  exact W.iret (v := (-1)) hx hb hr (fun t ht hW9 => ⟨⟨(-1), M, rfl, ⟨hW, hF, hG, trivial⟩, ⟨9, (-1), by rw [ht]; exact hP, hD⟩⟩, hS.F ht⟩) hS.2.2 dX13_mend_89
              · have hz := rfl (a := 0)
                have n_140 : ¬ k2 < 0 := gtN (c := c_35) (by omega) (Int32.not_le.mp c_91)
                refine lv_aload_n hx hb dX13_mend_67 rfl (lv_at hl 1 rfl) ?_
                refine lv_iconst (v := 3) hx hb dX13_mend_68 (by decide) ?_
                have hPc := hP.sub (ws' := [(za, .inr (13, [.int 0, .ref z1, .int (nI z2), .int (nI z3), .int z4, .int z5, .ref z6, .ref z7, .ref z8, .ref z9, .int (nI z10), .ref z11, .ref z12, .ref z13, .ref z14, .ref z15, .int (nI z16), .ref z17, .int z18, .ref z19]))]) [0] rfl
                have hDc := hD.sub (ws' := [(za, .inr (13, [.int 0, .ref z1, .int (nI z2), .int (nI z3), .int z4, .int z5, .ref z6, .ref z7, .ref z8, .ref z9, .int (nI z10), .ref z11, .ref z12, .ref z13, .ref z14, .ref z15, .int (nI z16), .ref z17, .int z18, .ref z19]))]) [0] (by decide) rfl
                have hKc := hK.sub (tys' := []) [] rfl
                have hFc := va_free (wc := [(za, .inr (13, [.int 0, .ref z1, .int (nI z2), .int (nI z3), .int z4, .int z5, .ref z6, .ref z7, .ref z8, .ref z9, .int (nI z10), .ref z11, .ref z12, .ref z13, .ref z14, .ref z15, .int (nI z16), .ref z17, .int z18, .ref z19]))]) hD hS hA [0] rfl
                refine va_calli (va_runV (As := [.int 3]) (rest := []) ⟨hx, hb, hml, hown, hg⟩ (m_refused l D H_2.size za 0 z1 (nI z2) (nI z3) z4 z5 z6 z7 z8 z9 (nI z10) z11 z12 z13 z14 z15 (nI z16) z17 z18 z19 3) (cwV 1 hg (gV wd_725 wd_726 wd_727 wd_717 wd_728) rfl rfl rfl (by decide +kernel) ⟨(Nat.le_trans (Nat.le_of_ble_eq_true rfl) hRf), (Nat.le_trans (Nat.le_of_ble_eq_true rfl) hRl)⟩) ⟨Pr.blind, va_recv hK hP (ci := 13) (q0 := 0) rfl rfl, fun U hU hW => ⟨rfl, Pr.at hPc hKc hDc hN hU hW⟩⟩ rfl rfl hl.1 rfl (lv_room (Nat.le_of_ble_eq_true rfl)) dX13_mend_69 ⟨(Nat.le_trans (Nat.le_of_ble_eq_true rfl) hRc), (Nat.le_trans (Nat.le_of_ble_eq_true rfl) hRs)⟩) hS (fun q _ h => hFc q h) hFc (fun r_142 M_143 t H_141 locs ht hvm hw hB hz1 hk1 hS => ?_)
                have hp_144 := hw
                obtain ⟨hP1, hK1, hD1⟩ := hB
                rw [ht] at hP1
                obtain ⟨hP, hD⟩ := va_joinQ (X := [(za, .inr (13, [.int 0, .ref z1, .int (nI z2), .int (nI z3), .int z4, .int z5, .ref z6, .ref z7, .ref z8, .ref z9, .int (nI z10), .ref z11, .ref z12, .ref z13, .ref z14, .ref z15, .int (nI z16), .ref z17, .int z18, .ref z19]))]) (cx := [(za, .inr (13, [.int 0, .ref z1, .int (nI z2), .int (nI z3), .int z4, .int z5, .ref z6, .ref z7, .ref z8, .ref z9, .int (nI z10), .ref z11, .ref z12, .ref z13, .ref z14, .ref z15, .int (nI z16), .ref z17, .int z18, .ref z19]))]) (wr := []) (w1 := [(za, .inr (13, [.int 0, .ref z1, .int (nI z2), .int (nI z3), .int 3, .int (-1), .ref z6, .ref z7, .ref z8, .ref z9, .int (nI z10), .ref z11, .ref z12, .ref z13, .ref z14, .ref z15, .int (nI z16), .ref z17, .int z18, .ref z19]))]) (pl := va_pl L M) hP hD [0] [] rfl rfl (by decide) (by decide) hk1 hFc hP1 hD1
                have hP : va_P D vwCl ([(za, .inr (13, [.int 0, .ref z1, .int (nI z2), .int (nI z3), .int 3, .int (-1), .ref z6, .ref z7, .ref z8, .ref z9, .int (nI z10), .ref z11, .ref z12, .ref z13, .ref z14, .ref z15, .int (nI z16), .ref z17, .int z18, .ref z19]))] ++ va_pl L M) H_141 := hP
                have hD : va_D A ([(za, .inr (13, [.int 0, .ref z1, .int (nI z2), .int (nI z3), .int 3, .int (-1), .ref z6, .ref z7, .ref z8, .ref z9, .int (nI z10), .ref z11, .ref z12, .ref z13, .ref z14, .ref z15, .int (nI z16), .ref z17, .int z18, .ref z19]))] ++ va_pl L M) := hD
                have hq := Eq.symm hp_144
                subst hq
                rw [hQ]
                exact W.iret (v := (-1)) hx hb hr (fun t ht hW9 => ⟨⟨(-1), M, rfl, ⟨hW, hF, hG, trivial⟩, ⟨3, (-1), by rw [ht]; exact hP, hD⟩⟩, hS.F ht⟩) hS.2.2 dX13_mend_72
        · have hz := rfl (a := 0)
          refine lv_aload_n hx hb dX13_mend_35 rfl (lv_at hl 0 rfl) ?_
          refine lv_iconst (v := 2) hx hb dX13_mend_36 (by decide) ?_
          have hPc := hP.sub (ws' := [(za, .inr (13, [.int 0, .ref z1, .int (nI z2), .int (nI z3), .int z4, .int z5, .ref z6, .ref z7, .ref z8, .ref z9, .int (nI z10), .ref z11, .ref z12, .ref z13, .ref z14, .ref z15, .int (nI z16), .ref z17, .int z18, .ref z19]))]) [0] rfl
          have hDc := hD.sub (ws' := [(za, .inr (13, [.int 0, .ref z1, .int (nI z2), .int (nI z3), .int z4, .int z5, .ref z6, .ref z7, .ref z8, .ref z9, .int (nI z10), .ref z11, .ref z12, .ref z13, .ref z14, .ref z15, .int (nI z16), .ref z17, .int z18, .ref z19]))]) [0] (by decide) rfl
          have hKc := hK.sub (tys' := []) [] rfl
          have hFc := va_free (wc := [(za, .inr (13, [.int 0, .ref z1, .int (nI z2), .int (nI z3), .int z4, .int z5, .ref z6, .ref z7, .ref z8, .ref z9, .int (nI z10), .ref z11, .ref z12, .ref z13, .ref z14, .ref z15, .int (nI z16), .ref z17, .int z18, .ref z19]))]) hD hS hA [0] rfl
          refine va_calli (va_runV (As := [.int 2]) (rest := []) ⟨hx, hb, hml, hown, hg⟩ (m_refused l D H_2.size za 0 z1 (nI z2) (nI z3) z4 z5 z6 z7 z8 z9 (nI z10) z11 z12 z13 z14 z15 (nI z16) z17 z18 z19 2) (cwV 1 hg (gV wd_725 wd_726 wd_727 wd_717 wd_728) rfl rfl rfl (by decide +kernel) ⟨(Nat.le_trans (Nat.le_of_ble_eq_true rfl) hRf), (Nat.le_trans (Nat.le_of_ble_eq_true rfl) hRl)⟩) ⟨Pr.blind, va_recv hK hP (ci := 13) (q0 := 0) rfl rfl, fun U hU hW => ⟨rfl, Pr.at hPc hKc hDc hN hU hW⟩⟩ rfl rfl hl.1 rfl (lv_room (Nat.le_of_ble_eq_true rfl)) dX13_mend_37 ⟨(Nat.le_trans (Nat.le_of_ble_eq_true rfl) hRc), (Nat.le_trans (Nat.le_of_ble_eq_true rfl) hRs)⟩) hS (fun q _ h => hFc q h) hFc (fun r_146 M_147 t H_145 locs ht hvm hw hB hz1 hk1 hS => ?_)
          have hp_148 := hw
          obtain ⟨hP1, hK1, hD1⟩ := hB
          rw [ht] at hP1
          obtain ⟨hP, hD⟩ := va_joinQ (X := [(za, .inr (13, [.int 0, .ref z1, .int (nI z2), .int (nI z3), .int z4, .int z5, .ref z6, .ref z7, .ref z8, .ref z9, .int (nI z10), .ref z11, .ref z12, .ref z13, .ref z14, .ref z15, .int (nI z16), .ref z17, .int z18, .ref z19]))]) (cx := [(za, .inr (13, [.int 0, .ref z1, .int (nI z2), .int (nI z3), .int z4, .int z5, .ref z6, .ref z7, .ref z8, .ref z9, .int (nI z10), .ref z11, .ref z12, .ref z13, .ref z14, .ref z15, .int (nI z16), .ref z17, .int z18, .ref z19]))]) (wr := []) (w1 := [(za, .inr (13, [.int 0, .ref z1, .int (nI z2), .int (nI z3), .int 2, .int (-1), .ref z6, .ref z7, .ref z8, .ref z9, .int (nI z10), .ref z11, .ref z12, .ref z13, .ref z14, .ref z15, .int (nI z16), .ref z17, .int z18, .ref z19]))]) (pl := va_pl L M) hP hD [0] [] rfl rfl (by decide) (by decide) hk1 hFc hP1 hD1
          have hP : va_P D vwCl ([(za, .inr (13, [.int 0, .ref z1, .int (nI z2), .int (nI z3), .int 2, .int (-1), .ref z6, .ref z7, .ref z8, .ref z9, .int (nI z10), .ref z11, .ref z12, .ref z13, .ref z14, .ref z15, .int (nI z16), .ref z17, .int z18, .ref z19]))] ++ va_pl L M) H_145 := hP
          have hD : va_D A ([(za, .inr (13, [.int 0, .ref z1, .int (nI z2), .int (nI z3), .int 2, .int (-1), .ref z6, .ref z7, .ref z8, .ref z9, .int (nI z10), .ref z11, .ref z12, .ref z13, .ref z14, .ref z15, .int (nI z16), .ref z17, .int z18, .ref z19]))] ++ va_pl L M) := hD
          have hq := Eq.symm hp_148
          subst hq
          rw [hQ]
          exact W.iret (v := (-1)) hx hb hr (fun t ht hW9 => ⟨⟨(-1), M, rfl, ⟨hW, hF, hG, trivial⟩, ⟨2, (-1), by rw [ht]; exact hP, hD⟩⟩, hS.F ht⟩) hS.2.2 dX13_mend_40
  · have hz := rfl (a := 0)
    refine lv_if_ne (tgt := 19) hx hb dX13_mend_10 (by decide) (fun c_149 => absurd c_149 (by decide)) (fun _ => ?_)
    refine lv_aload_n hx hb dX13_mend_13 rfl (lv_at hl 0 rfl) ?_
    refine lv_iconst (v := 1) hx hb dX13_mend_14 (by decide) ?_
    have hPc := hP.sub (ws' := [(za, .inr (13, [.int 0, .ref z1, .int (nI z2), .int (nI z3), .int z4, .int z5, .ref z6, .ref z7, .ref z8, .ref z9, .int (nI z10), .ref z11, .ref z12, .ref z13, .ref z14, .ref z15, .int (nI z16), .ref z17, .int z18, .ref z19]))]) [0] rfl
    have hDc := hD.sub (ws' := [(za, .inr (13, [.int 0, .ref z1, .int (nI z2), .int (nI z3), .int z4, .int z5, .ref z6, .ref z7, .ref z8, .ref z9, .int (nI z10), .ref z11, .ref z12, .ref z13, .ref z14, .ref z15, .int (nI z16), .ref z17, .int z18, .ref z19]))]) [0] (by decide) rfl
    have hKc := hK.sub (tys' := []) [] rfl
    have hFc := va_free (wc := [(za, .inr (13, [.int 0, .ref z1, .int (nI z2), .int (nI z3), .int z4, .int z5, .ref z6, .ref z7, .ref z8, .ref z9, .int (nI z10), .ref z11, .ref z12, .ref z13, .ref z14, .ref z15, .int (nI z16), .ref z17, .int z18, .ref z19]))]) hD hS hA [0] rfl
    refine va_calli (va_runV (As := [.int 1]) (rest := []) ⟨hx, hb, hml, hown, hg⟩ (m_refused l D H_2.size za 0 z1 (nI z2) (nI z3) z4 z5 z6 z7 z8 z9 (nI z10) z11 z12 z13 z14 z15 (nI z16) z17 z18 z19 1) (cwV 1 hg (gV wd_725 wd_726 wd_727 wd_717 wd_728) rfl rfl rfl (by decide +kernel) ⟨(Nat.le_trans (Nat.le_of_ble_eq_true rfl) hRf), (Nat.le_trans (Nat.le_of_ble_eq_true rfl) hRl)⟩) ⟨Pr.blind, va_recv hK hP (ci := 13) (q0 := 0) rfl rfl, fun U hU hW => ⟨rfl, Pr.at hPc hKc hDc hN hU hW⟩⟩ rfl rfl hl.1 rfl (lv_room (Nat.le_of_ble_eq_true rfl)) dX13_mend_15 ⟨(Nat.le_trans (Nat.le_of_ble_eq_true rfl) hRc), (Nat.le_trans (Nat.le_of_ble_eq_true rfl) hRs)⟩) hS (fun q _ h => hFc q h) hFc (fun r_151 M_152 t H_150 locs ht hvm hw hB hz1 hk1 hS => ?_)
    have hp_153 := hw
    obtain ⟨hP1, hK1, hD1⟩ := hB
    rw [ht] at hP1
    obtain ⟨hP, hD⟩ := va_joinQ (X := [(za, .inr (13, [.int 0, .ref z1, .int (nI z2), .int (nI z3), .int z4, .int z5, .ref z6, .ref z7, .ref z8, .ref z9, .int (nI z10), .ref z11, .ref z12, .ref z13, .ref z14, .ref z15, .int (nI z16), .ref z17, .int z18, .ref z19]))]) (cx := [(za, .inr (13, [.int 0, .ref z1, .int (nI z2), .int (nI z3), .int z4, .int z5, .ref z6, .ref z7, .ref z8, .ref z9, .int (nI z10), .ref z11, .ref z12, .ref z13, .ref z14, .ref z15, .int (nI z16), .ref z17, .int z18, .ref z19]))]) (wr := []) (w1 := [(za, .inr (13, [.int 0, .ref z1, .int (nI z2), .int (nI z3), .int 1, .int (-1), .ref z6, .ref z7, .ref z8, .ref z9, .int (nI z10), .ref z11, .ref z12, .ref z13, .ref z14, .ref z15, .int (nI z16), .ref z17, .int z18, .ref z19]))]) (pl := va_pl L M) hP hD [0] [] rfl rfl (by decide) (by decide) hk1 hFc hP1 hD1
    have hP : va_P D vwCl ([(za, .inr (13, [.int 0, .ref z1, .int (nI z2), .int (nI z3), .int 1, .int (-1), .ref z6, .ref z7, .ref z8, .ref z9, .int (nI z10), .ref z11, .ref z12, .ref z13, .ref z14, .ref z15, .int (nI z16), .ref z17, .int z18, .ref z19]))] ++ va_pl L M) H_150 := hP
    have hD : va_D A ([(za, .inr (13, [.int 0, .ref z1, .int (nI z2), .int (nI z3), .int 1, .int (-1), .ref z6, .ref z7, .ref z8, .ref z9, .int (nI z10), .ref z11, .ref z12, .ref z13, .ref z14, .ref z15, .int (nI z16), .ref z17, .int z18, .ref z19]))] ++ va_pl L M) := hD
    have hq := Eq.symm hp_153
    subst hq
    rw [hQ]
    exact W.iret (v := (-1)) hx hb hr (fun t ht hW9 => ⟨⟨(-1), M, rfl, ⟨hW, hF, hG, trivial⟩, ⟨1, (-1), by rw [ht]; exact hP, hD⟩⟩, hS.F ht⟩) hS.2.2 dX13_mend_18
set_option maxHeartbeats 4000000 in
set_option maxRecDepth 100000 in
theorem r_X13_leaf (l : Launch) (D : va_G) (cy : Nat → ClassId) (K : Kp) (L : List Nat) (M : Hp) (sz : Nat) (za : Nat) (z0 : Int32) (z1 : Nat) (z2 : Nat) (z3 : Nat) (z4 : Int32) (z5 : Int32) (z6 : Nat) (z7 : Nat) (z8 : Nat) (z9 : Nat) (z10 : Nat) (z11 : Nat) (z12 : Nat) (z13 : Nat) (z14 : Nat) (z15 : Nat) (z16 : Nat) (z17 : Nat) (z18 : Int32) (z19 : Nat) (k1 : Int32) (k2 : Int32) (k3 : Int32) (k4 : Int32) (hW : WOM cy K L M) (i1 : isk K L z1 23 8) (b2 : z2 ≤ 8) (b3 : z3 ≤ 40) (i6 : isk K L z6 47 40) (i7 : isk K L z7 48 40) (i8 : isk K L z8 49 8) (i9 : isk K L z9 50 8) (b10 : z10 ≤ 8) (i11 : isk K L z11 32 24) (i12 : isk K L z12 14 24) (i13 : isk K L z13 15 24) (i14 : isk K L z14 15 24) (i15 : isk K L z15 15 24) (b16 : z16 ≤ 24) (i17 : isk K L z17 14 24) (i19 : isk K L z19 15 25) : Met l yX13_leaf (wsM yX13_leaf cX13_leaf 6 (some .int)) ({ frames := 1, cells := 0, slots := 0, locals := 21 }) (va_Pc [.ref za, .int k1, .int k2, .int k3, .int k4] (PG D cy [(za, .inr (13, [.int z0, .ref z1, .int (nI z2), .int (nI z3), .int z4, .int z5, .ref z6, .ref z7, .ref z8, .ref z9, .int (nI z10), .ref z11, .ref z12, .ref z13, .ref z14, .ref z15, .int (nI z16), .ref z17, .int z18, .ref z19]))] L M sz)) (va_Qi (fun (r : Int32) (M9 : Hp) => WOM cy K L M9 ∧ fr K L [12, 14, 35, 37, 74] M M9 ∧ fG K L [16] M M9 ∧ (True)) (fun M9 t => ∃ (w4 : Int32) (w5 : Int32), PQ D [(za, .inr (13, [.int 0, .ref z1, .int (nI z2), .int (nI z3), .int w4, .int w5, .ref z6, .ref z7, .ref z8, .ref z9, .int (nI z10), .ref z11, .ref z12, .ref z13, .ref z14, .ref z15, .int (nI z16), .ref z17, .int z18, .ref z19]))] L M9 (va_A ([(za, .inr (13, [.int z0, .ref z1, .int (nI z2), .int (nI z3), .int z4, .int z5, .ref z6, .ref z7, .ref z8, .ref z9, .int (nI z10), .ref z11, .ref z12, .ref z13, .ref z14, .ref z15, .int (nI z16), .ref z17, .int z18, .ref z19]))] ++ va_pl L M) sz) t) (va_A ([(za, .inr (13, [.int z0, .ref z1, .int (nI z2), .int (nI z3), .int z4, .int z5, .ref z6, .ref z7, .ref z8, .ref z9, .int (nI z10), .ref z11, .ref z12, .ref z13, .ref z14, .ref z15, .int (nI z16), .ref z17, .int z18, .ref z19]))] ++ va_pl L M) sz)) 0 0 (va_A ([(za, .inr (13, [.int z0, .ref z1, .int (nI z2), .int (nI z3), .int z4, .int z5, .ref z6, .ref z7, .ref z8, .ref z9, .int (nI z10), .ref z11, .ref z12, .ref z13, .ref z14, .ref z15, .int (nI z16), .ref z17, .int z18, .ref z19]))] ++ va_pl L M) sz) := by
  refine Met.ofW (cc := cX13_leaf) (maxL := 6) (ret := (some .int)) (by decide) rfl ?_
  intro p e s m args below meth c s₁ B hml hv
  obtain ⟨rfl, hsz, hP, hK, hD0, hN⟩ := hv
  have hx := B.exec
  have hb := B.bytes
  have hr := B.returns
  have hts := atoms_spec (ws := (wsM yX13_leaf cX13_leaf 6 (some .int))) B.pre
  have hg : ∀ w ∈ lw_good, w.before _ s = true := fun w h => hts w (List.mem_cons_of_mem _ h)
  have hown : s.vm.findClass RX13 = some m.cls := findClass_of_methodNamed B.named
  have hlocks := B.notSynchronized
  subst hsz
  have hD := hD0.self (sz := s.heap.size)
  generalize hAe : va_A ([(za, .inr (13, [.int z0, .ref z1, .int (nI z2), .int (nI z3), .int z4, .int z5, .ref z6, .ref z7, .ref z8, .ref z9, .int (nI z10), .ref z11, .ref z12, .ref z13, .ref z14, .ref z15, .int (nI z16), .ref z17, .int z18, .ref z19]))] ++ va_pl L M) s.heap.size = A at hD ⊢
  have hA : ∀ q : Nat, s.heap.size ≤ q → A q := fun q h => by rw [← hAe]; exact Or.inr h
  have hS : va_S A s.heap s.heap [] := va_S.rf
  have hl := lv_entry ([.ref za, .int k1, .int k2, .int k3, .int k4]) (n := 6) (Nat.le_of_ble_eq_true rfl)
  rw [lg_entry_eq]
  generalize (lg_sl ([.ref za, .int k1, .int k2, .int k3, .int k4]) ++ List.replicate (6 - (lg_sl ([.ref za, .int k1, .int k2, .int k3, .int k4])).length) Slot.unset).toArray = ls at hl ⊢
  refine W.nameQ (fun Q hQ => ?_)
  refine W.nameR (fun R hR => ?_)
  have hRf : 1 ≤ R.frames := by rw [hR]; exact Nat.le_of_ble_eq_true rfl
  have hRl : 21 ≤ R.locals := by rw [hR]; exact Nat.le_of_ble_eq_true rfl
  have hRc : 0 ≤ R.cells := by rw [hR]; exact Nat.le_of_ble_eq_true rfl
  have hRs : 0 ≤ R.slots := by rw [hR]; exact Nat.le_of_ble_eq_true rfl
  have hF : fr K L [12, 14, 35, 37, 74] M M := fr.rf
  have hG : fG K L [16] M M := fG.rf
  have hl : lv_has ls 6 [(0, .ref za), (1, .int k1), (2, .int k2), (3, .int k3), (4, .int k4)] := hl
  refine lv_aload_n hx hb dX13_leaf_0 rfl (lv_at hl 0 rfl) ?_
  refine lv_iconst (v := 0) hx hb dX13_leaf_1 (by decide) ?_
  refine va_put (D := D) (ci := 13) (v := .int 0) (ty := .int) (C := RX13) (T := TX13) (N := 20) hx hb hg inG13 tyX13 tyX13_ok nmX13 hown hK hP hD hS 0 rfl rfl 0 (by decide) (hg _ wd_720) (fun _ h9 => h9) rfl (by decide +kernel) rfl rfl (Nat.le_of_ble_eq_true rfl) dX13_leaf_2 (fun H_1 locs hP hD hS => ?_)
  have hP : va_P D vwCl ([(za, .inr (13, [.int 0, .ref z1, .int (nI z2), .int (nI z3), .int z4, .int z5, .ref z6, .ref z7, .ref z8, .ref z9, .int (nI z10), .ref z11, .ref z12, .ref z13, .ref z14, .ref z15, .int (nI z16), .ref z17, .int z18, .ref z19]))] ++ va_pl L M) H_1 := hP
  have hD : va_D A ([(za, .inr (13, [.int 0, .ref z1, .int (nI z2), .int (nI z3), .int z4, .int z5, .ref z6, .ref z7, .ref z8, .ref z9, .int (nI z10), .ref z11, .ref z12, .ref z13, .ref z14, .ref z15, .int (nI z16), .ref z17, .int z18, .ref z19]))] ++ va_pl L M) := hD
  refine lv_aload_n hx hb dX13_leaf_5 rfl (lv_at hl 0 rfl) ?_
  refine lv_iload_n hx hb dX13_leaf_6 rfl (lv_at hl 1 rfl) ?_
  have hPc : va_P D vwCl ([(za, .inr (13, [.int 0, .ref z1, .int (nI z2), .int (nI z3), .int z4, .int z5, .ref z6, .ref z7, .ref z8, .ref z9, .int (nI z10), .ref z11, .ref z12, .ref z13, .ref z14, .ref z15, .int (nI z16), .ref z17, .int z18, .ref z19]))] ++ va_pl L M) H_1 := hP
  have hDc : va_D A ([(za, .inr (13, [.int 0, .ref z1, .int (nI z2), .int (nI z3), .int z4, .int z5, .ref z6, .ref z7, .ref z8, .ref z9, .int (nI z10), .ref z11, .ref z12, .ref z13, .ref z14, .ref z15, .int (nI z16), .ref z17, .int z18, .ref z19]))] ++ va_pl L M) := hD
  have hFc : ∀ q, va_A ([(za, .inr (13, [.int 0, .ref z1, .int (nI z2), .int (nI z3), .int z4, .int z5, .ref z6, .ref z7, .ref z8, .ref z9, .int (nI z10), .ref z11, .ref z12, .ref z13, .ref z14, .ref z15, .int (nI z16), .ref z17, .int z18, .ref z19]))] ++ va_pl L M) H_1.size q → A q := pg_free hDc hS hA
  refine va_calli (va_runV (As := [.int k1]) (rest := []) ⟨hx, hb, hml, hown, hg⟩ (r_X13_isHouse l D cy K L M H_1.size za 0 z1 z2 z3 z4 z5 z6 z7 z8 z9 z10 z11 z12 z13 z14 z15 z16 z17 z18 z19 k1  hW i1 b2 b3 i6 i7 i8 i9 b10 i11 i12 i13 i14 i15 b16 i17 i19) (cwV 1 hg (gV wd_714 wd_715 wd_716 wd_717 wd_718) rfl rfl rfl (by decide +kernel) ⟨(Nat.le_trans (Nat.le_of_ble_eq_true rfl) hRf), (Nat.le_trans (Nat.le_of_ble_eq_true rfl) hRl)⟩) ⟨PG.blind, va_recv hK hP (ci := 13) (q0 := 0) rfl rfl, fun U hU hW => ⟨rfl, PG.at hPc hK hDc hN hU hW⟩⟩ rfl rfl hl.1 rfl (lv_room (Nat.le_of_ble_eq_true rfl)) dX13_leaf_7 ⟨(Nat.le_trans (Nat.le_of_ble_eq_true rfl) hRc), (Nat.le_trans (Nat.le_of_ble_eq_true rfl) hRs)⟩) hS (fun q _ h => hFc q h) hFc (fun r_3 M_4 t H_2 locs ht hvm hw hB hz1 hk1 hS => ?_)
  have hp_5 := hw
  obtain ⟨hP1, hD1⟩ := hB
  rw [ht] at hP1
  have hP : va_P D vwCl ([(za, .inr (13, [.int 0, .ref z1, .int (nI z2), .int (nI z3), .int z4, .int z5, .ref z6, .ref z7, .ref z8, .ref z9, .int (nI z10), .ref z11, .ref z12, .ref z13, .ref z14, .ref z15, .int (nI z16), .ref z17, .int z18, .ref z19]))] ++ va_pl L M) H_2 := hP1
  have hD : va_D A ([(za, .inr (13, [.int 0, .ref z1, .int (nI z2), .int (nI z3), .int z4, .int z5, .ref z6, .ref z7, .ref z8, .ref z9, .int (nI z10), .ref z11, .ref z12, .ref z13, .ref z14, .ref z15, .int (nI z16), .ref z17, .int z18, .ref z19]))] ++ va_pl L M) := hD1.mono hFc
  rcases hp_5 with ⟨rfl, c_6, c_7⟩ | rfl
  · have hz := rfl (a := 0)
    refine lv_if_ne (tgt := 19) hx hb dX13_leaf_10 (by decide) (fun _ => ?_) (fun c_8 => absurd c_8 (by decide))
    refine lv_iload_n hx hb dX13_leaf_19 rfl (lv_at hl 3 rfl) ?_
    refine lv_if_lt (tgt := 40) hx hb dX13_leaf_20 (by decide) (fun c_9 => ?_) (fun c_9 => ?_)
    · have hz := rfl (a := 0)
      refine lv_aload_n hx hb dX13_leaf_40 rfl (lv_at hl 0 rfl) ?_
      refine lv_iconst (v := 2) hx hb dX13_leaf_41 (by decide) ?_
      have hPc := hP.sub (ws' := [(za, .inr (13, [.int 0, .ref z1, .int (nI z2), .int (nI z3), .int z4, .int z5, .ref z6, .ref z7, .ref z8, .ref z9, .int (nI z10), .ref z11, .ref z12, .ref z13, .ref z14, .ref z15, .int (nI z16), .ref z17, .int z18, .ref z19]))]) [0] rfl
      have hDc := hD.sub (ws' := [(za, .inr (13, [.int 0, .ref z1, .int (nI z2), .int (nI z3), .int z4, .int z5, .ref z6, .ref z7, .ref z8, .ref z9, .int (nI z10), .ref z11, .ref z12, .ref z13, .ref z14, .ref z15, .int (nI z16), .ref z17, .int z18, .ref z19]))]) [0] (by decide) rfl
      have hKc := hK.sub (tys' := []) [] rfl
      have hFc := va_free (wc := [(za, .inr (13, [.int 0, .ref z1, .int (nI z2), .int (nI z3), .int z4, .int z5, .ref z6, .ref z7, .ref z8, .ref z9, .int (nI z10), .ref z11, .ref z12, .ref z13, .ref z14, .ref z15, .int (nI z16), .ref z17, .int z18, .ref z19]))]) hD hS hA [0] rfl
      refine va_calli (va_runV (As := [.int 2]) (rest := []) ⟨hx, hb, hml, hown, hg⟩ (m_refused l D H_2.size za 0 z1 (nI z2) (nI z3) z4 z5 z6 z7 z8 z9 (nI z10) z11 z12 z13 z14 z15 (nI z16) z17 z18 z19 2) (cwV 1 hg (gV wd_725 wd_726 wd_727 wd_717 wd_728) rfl rfl rfl (by decide +kernel) ⟨(Nat.le_trans (Nat.le_of_ble_eq_true rfl) hRf), (Nat.le_trans (Nat.le_of_ble_eq_true rfl) hRl)⟩) ⟨Pr.blind, va_recv hK hP (ci := 13) (q0 := 0) rfl rfl, fun U hU hW => ⟨rfl, Pr.at hPc hKc hDc hN hU hW⟩⟩ rfl rfl hl.1 rfl (lv_room (Nat.le_of_ble_eq_true rfl)) dX13_leaf_42 ⟨(Nat.le_trans (Nat.le_of_ble_eq_true rfl) hRc), (Nat.le_trans (Nat.le_of_ble_eq_true rfl) hRs)⟩) hS (fun q _ h => hFc q h) hFc (fun r_11 M_12 t H_10 locs ht hvm hw hB hz1 hk1 hS => ?_)
      have hp_13 := hw
      obtain ⟨hP1, hK1, hD1⟩ := hB
      rw [ht] at hP1
      obtain ⟨hP, hD⟩ := va_joinQ (X := [(za, .inr (13, [.int 0, .ref z1, .int (nI z2), .int (nI z3), .int z4, .int z5, .ref z6, .ref z7, .ref z8, .ref z9, .int (nI z10), .ref z11, .ref z12, .ref z13, .ref z14, .ref z15, .int (nI z16), .ref z17, .int z18, .ref z19]))]) (cx := [(za, .inr (13, [.int 0, .ref z1, .int (nI z2), .int (nI z3), .int z4, .int z5, .ref z6, .ref z7, .ref z8, .ref z9, .int (nI z10), .ref z11, .ref z12, .ref z13, .ref z14, .ref z15, .int (nI z16), .ref z17, .int z18, .ref z19]))]) (wr := []) (w1 := [(za, .inr (13, [.int 0, .ref z1, .int (nI z2), .int (nI z3), .int 2, .int (-1), .ref z6, .ref z7, .ref z8, .ref z9, .int (nI z10), .ref z11, .ref z12, .ref z13, .ref z14, .ref z15, .int (nI z16), .ref z17, .int z18, .ref z19]))]) (pl := va_pl L M) hP hD [0] [] rfl rfl (by decide) (by decide) hk1 hFc hP1 hD1
      have hP : va_P D vwCl ([(za, .inr (13, [.int 0, .ref z1, .int (nI z2), .int (nI z3), .int 2, .int (-1), .ref z6, .ref z7, .ref z8, .ref z9, .int (nI z10), .ref z11, .ref z12, .ref z13, .ref z14, .ref z15, .int (nI z16), .ref z17, .int z18, .ref z19]))] ++ va_pl L M) H_10 := hP
      have hD : va_D A ([(za, .inr (13, [.int 0, .ref z1, .int (nI z2), .int (nI z3), .int 2, .int (-1), .ref z6, .ref z7, .ref z8, .ref z9, .int (nI z10), .ref z11, .ref z12, .ref z13, .ref z14, .ref z15, .int (nI z16), .ref z17, .int z18, .ref z19]))] ++ va_pl L M) := hD
      have hq := Eq.symm hp_13
      subst hq
      rw [hQ]
      exact W.iret (v := (-1)) hx hb hr (fun t ht hW9 => ⟨⟨(-1), M, rfl, ⟨hW, hF, hG, trivial⟩, ⟨2, (-1), by rw [ht]; exact hP, hD⟩⟩, hS.F ht⟩) hS.2.2 dX13_leaf_45
    · have hz := rfl (a := 0)
      refine lv_iload_n hx hb dX13_leaf_23 rfl (lv_at hl 3 rfl) ?_
      refine lv_iconst (v := 2) hx hb dX13_leaf_24 (by decide) ?_
      refine lv_icmp_gt (tgt := 40) hx hb dX13_leaf_25 (by decide) (fun c_14 => ?_) (fun c_14 => ?_)
      · have hz := rfl (a := 0)
        have n_15 : ¬ k3 < 0 := gtN (c := 2) (by omega) c_14
        refine lv_aload_n hx hb dX13_leaf_40 rfl (lv_at hl 0 rfl) ?_
        refine lv_iconst (v := 2) hx hb dX13_leaf_41 (by decide) ?_
        have hPc := hP.sub (ws' := [(za, .inr (13, [.int 0, .ref z1, .int (nI z2), .int (nI z3), .int z4, .int z5, .ref z6, .ref z7, .ref z8, .ref z9, .int (nI z10), .ref z11, .ref z12, .ref z13, .ref z14, .ref z15, .int (nI z16), .ref z17, .int z18, .ref z19]))]) [0] rfl
        have hDc := hD.sub (ws' := [(za, .inr (13, [.int 0, .ref z1, .int (nI z2), .int (nI z3), .int z4, .int z5, .ref z6, .ref z7, .ref z8, .ref z9, .int (nI z10), .ref z11, .ref z12, .ref z13, .ref z14, .ref z15, .int (nI z16), .ref z17, .int z18, .ref z19]))]) [0] (by decide) rfl
        have hKc := hK.sub (tys' := []) [] rfl
        have hFc := va_free (wc := [(za, .inr (13, [.int 0, .ref z1, .int (nI z2), .int (nI z3), .int z4, .int z5, .ref z6, .ref z7, .ref z8, .ref z9, .int (nI z10), .ref z11, .ref z12, .ref z13, .ref z14, .ref z15, .int (nI z16), .ref z17, .int z18, .ref z19]))]) hD hS hA [0] rfl
        refine va_calli (va_runV (As := [.int 2]) (rest := []) ⟨hx, hb, hml, hown, hg⟩ (m_refused l D H_2.size za 0 z1 (nI z2) (nI z3) z4 z5 z6 z7 z8 z9 (nI z10) z11 z12 z13 z14 z15 (nI z16) z17 z18 z19 2) (cwV 1 hg (gV wd_725 wd_726 wd_727 wd_717 wd_728) rfl rfl rfl (by decide +kernel) ⟨(Nat.le_trans (Nat.le_of_ble_eq_true rfl) hRf), (Nat.le_trans (Nat.le_of_ble_eq_true rfl) hRl)⟩) ⟨Pr.blind, va_recv hK hP (ci := 13) (q0 := 0) rfl rfl, fun U hU hW => ⟨rfl, Pr.at hPc hKc hDc hN hU hW⟩⟩ rfl rfl hl.1 rfl (lv_room (Nat.le_of_ble_eq_true rfl)) dX13_leaf_42 ⟨(Nat.le_trans (Nat.le_of_ble_eq_true rfl) hRc), (Nat.le_trans (Nat.le_of_ble_eq_true rfl) hRs)⟩) hS (fun q _ h => hFc q h) hFc (fun r_17 M_18 t H_16 locs ht hvm hw hB hz1 hk1 hS => ?_)
        have hp_19 := hw
        obtain ⟨hP1, hK1, hD1⟩ := hB
        rw [ht] at hP1
        obtain ⟨hP, hD⟩ := va_joinQ (X := [(za, .inr (13, [.int 0, .ref z1, .int (nI z2), .int (nI z3), .int z4, .int z5, .ref z6, .ref z7, .ref z8, .ref z9, .int (nI z10), .ref z11, .ref z12, .ref z13, .ref z14, .ref z15, .int (nI z16), .ref z17, .int z18, .ref z19]))]) (cx := [(za, .inr (13, [.int 0, .ref z1, .int (nI z2), .int (nI z3), .int z4, .int z5, .ref z6, .ref z7, .ref z8, .ref z9, .int (nI z10), .ref z11, .ref z12, .ref z13, .ref z14, .ref z15, .int (nI z16), .ref z17, .int z18, .ref z19]))]) (wr := []) (w1 := [(za, .inr (13, [.int 0, .ref z1, .int (nI z2), .int (nI z3), .int 2, .int (-1), .ref z6, .ref z7, .ref z8, .ref z9, .int (nI z10), .ref z11, .ref z12, .ref z13, .ref z14, .ref z15, .int (nI z16), .ref z17, .int z18, .ref z19]))]) (pl := va_pl L M) hP hD [0] [] rfl rfl (by decide) (by decide) hk1 hFc hP1 hD1
        have hP : va_P D vwCl ([(za, .inr (13, [.int 0, .ref z1, .int (nI z2), .int (nI z3), .int 2, .int (-1), .ref z6, .ref z7, .ref z8, .ref z9, .int (nI z10), .ref z11, .ref z12, .ref z13, .ref z14, .ref z15, .int (nI z16), .ref z17, .int z18, .ref z19]))] ++ va_pl L M) H_16 := hP
        have hD : va_D A ([(za, .inr (13, [.int 0, .ref z1, .int (nI z2), .int (nI z3), .int 2, .int (-1), .ref z6, .ref z7, .ref z8, .ref z9, .int (nI z10), .ref z11, .ref z12, .ref z13, .ref z14, .ref z15, .int (nI z16), .ref z17, .int z18, .ref z19]))] ++ va_pl L M) := hD
        have hq := Eq.symm hp_19
        subst hq
        rw [hQ]
        exact W.iret (v := (-1)) hx hb hr (fun t ht hW9 => ⟨⟨(-1), M, rfl, ⟨hW, hF, hG, trivial⟩, ⟨2, (-1), by rw [ht]; exact hP, hD⟩⟩, hS.F ht⟩) hS.2.2 dX13_leaf_45
      · have hz := rfl (a := 0)
        refine lv_iload hx hb dX13_leaf_28 (lv_at hl 4 rfl) ?_
        refine lv_if_lt (tgt := 40) hx hb dX13_leaf_30 (by decide) (fun c_20 => ?_) (fun c_20 => ?_)
        · have hz := rfl (a := 0)
          refine lv_aload_n hx hb dX13_leaf_40 rfl (lv_at hl 0 rfl) ?_
          refine lv_iconst (v := 2) hx hb dX13_leaf_41 (by decide) ?_
          have hPc := hP.sub (ws' := [(za, .inr (13, [.int 0, .ref z1, .int (nI z2), .int (nI z3), .int z4, .int z5, .ref z6, .ref z7, .ref z8, .ref z9, .int (nI z10), .ref z11, .ref z12, .ref z13, .ref z14, .ref z15, .int (nI z16), .ref z17, .int z18, .ref z19]))]) [0] rfl
          have hDc := hD.sub (ws' := [(za, .inr (13, [.int 0, .ref z1, .int (nI z2), .int (nI z3), .int z4, .int z5, .ref z6, .ref z7, .ref z8, .ref z9, .int (nI z10), .ref z11, .ref z12, .ref z13, .ref z14, .ref z15, .int (nI z16), .ref z17, .int z18, .ref z19]))]) [0] (by decide) rfl
          have hKc := hK.sub (tys' := []) [] rfl
          have hFc := va_free (wc := [(za, .inr (13, [.int 0, .ref z1, .int (nI z2), .int (nI z3), .int z4, .int z5, .ref z6, .ref z7, .ref z8, .ref z9, .int (nI z10), .ref z11, .ref z12, .ref z13, .ref z14, .ref z15, .int (nI z16), .ref z17, .int z18, .ref z19]))]) hD hS hA [0] rfl
          refine va_calli (va_runV (As := [.int 2]) (rest := []) ⟨hx, hb, hml, hown, hg⟩ (m_refused l D H_2.size za 0 z1 (nI z2) (nI z3) z4 z5 z6 z7 z8 z9 (nI z10) z11 z12 z13 z14 z15 (nI z16) z17 z18 z19 2) (cwV 1 hg (gV wd_725 wd_726 wd_727 wd_717 wd_728) rfl rfl rfl (by decide +kernel) ⟨(Nat.le_trans (Nat.le_of_ble_eq_true rfl) hRf), (Nat.le_trans (Nat.le_of_ble_eq_true rfl) hRl)⟩) ⟨Pr.blind, va_recv hK hP (ci := 13) (q0 := 0) rfl rfl, fun U hU hW => ⟨rfl, Pr.at hPc hKc hDc hN hU hW⟩⟩ rfl rfl hl.1 rfl (lv_room (Nat.le_of_ble_eq_true rfl)) dX13_leaf_42 ⟨(Nat.le_trans (Nat.le_of_ble_eq_true rfl) hRc), (Nat.le_trans (Nat.le_of_ble_eq_true rfl) hRs)⟩) hS (fun q _ h => hFc q h) hFc (fun r_22 M_23 t H_21 locs ht hvm hw hB hz1 hk1 hS => ?_)
          have hp_24 := hw
          obtain ⟨hP1, hK1, hD1⟩ := hB
          rw [ht] at hP1
          obtain ⟨hP, hD⟩ := va_joinQ (X := [(za, .inr (13, [.int 0, .ref z1, .int (nI z2), .int (nI z3), .int z4, .int z5, .ref z6, .ref z7, .ref z8, .ref z9, .int (nI z10), .ref z11, .ref z12, .ref z13, .ref z14, .ref z15, .int (nI z16), .ref z17, .int z18, .ref z19]))]) (cx := [(za, .inr (13, [.int 0, .ref z1, .int (nI z2), .int (nI z3), .int z4, .int z5, .ref z6, .ref z7, .ref z8, .ref z9, .int (nI z10), .ref z11, .ref z12, .ref z13, .ref z14, .ref z15, .int (nI z16), .ref z17, .int z18, .ref z19]))]) (wr := []) (w1 := [(za, .inr (13, [.int 0, .ref z1, .int (nI z2), .int (nI z3), .int 2, .int (-1), .ref z6, .ref z7, .ref z8, .ref z9, .int (nI z10), .ref z11, .ref z12, .ref z13, .ref z14, .ref z15, .int (nI z16), .ref z17, .int z18, .ref z19]))]) (pl := va_pl L M) hP hD [0] [] rfl rfl (by decide) (by decide) hk1 hFc hP1 hD1
          have hP : va_P D vwCl ([(za, .inr (13, [.int 0, .ref z1, .int (nI z2), .int (nI z3), .int 2, .int (-1), .ref z6, .ref z7, .ref z8, .ref z9, .int (nI z10), .ref z11, .ref z12, .ref z13, .ref z14, .ref z15, .int (nI z16), .ref z17, .int z18, .ref z19]))] ++ va_pl L M) H_21 := hP
          have hD : va_D A ([(za, .inr (13, [.int 0, .ref z1, .int (nI z2), .int (nI z3), .int 2, .int (-1), .ref z6, .ref z7, .ref z8, .ref z9, .int (nI z10), .ref z11, .ref z12, .ref z13, .ref z14, .ref z15, .int (nI z16), .ref z17, .int z18, .ref z19]))] ++ va_pl L M) := hD
          have hq := Eq.symm hp_24
          subst hq
          rw [hQ]
          exact W.iret (v := (-1)) hx hb hr (fun t ht hW9 => ⟨⟨(-1), M, rfl, ⟨hW, hF, hG, trivial⟩, ⟨2, (-1), by rw [ht]; exact hP, hD⟩⟩, hS.F ht⟩) hS.2.2 dX13_leaf_45
        · have hz := rfl (a := 0)
          refine lv_iload hx hb dX13_leaf_33 (lv_at hl 4 rfl) ?_
          refine lv_bipush (v := 6) hx hb dX13_leaf_35 (by decide) ?_
          refine lv_icmp_le (tgt := 46) hx hb dX13_leaf_37 (by decide) (fun c_25 => ?_) (fun c_25 => ?_)
          · have hz := rfl (a := 0)
            refine lv_aload_n hx hb dX13_leaf_46 rfl (lv_at hl 0 rfl) ?_
            refine va_get (D := D) (ci := 13) (v := .ref z1) (C := RX13) (T := TX13) (N := 20) hx hb hg inG13 hown hK hP 0 rfl rfl 1 (by decide) (hg _ wd_739) (fun _ h9 => h9) rfl dX13_leaf_47 ?_
            refine lv_iload_n hx hb dX13_leaf_50 rfl (lv_at hl 1 rfl) ?_
            obtain ⟨f26, hM26, hf26⟩ := hW.open_23 i1
            have hi_27 : vp_in k1 8 := (inbW (a := z2) (by omega) (inb k1 z2 (by omega) c_6 c_7))
            refine pg_aldq hx hb hK hP i1.1 9 hM26 rfl hi_27 dX13_leaf_51 ?_
            obtain ⟨b28, eb_29, hb_30⟩ := hf26 _ (vp_lt hi_27)
            rw [eb_29]
            refine lv_astore (lv' := [(5, .ref b28), (0, .ref za), (1, .int k1), (2, .int k2), (3, .int k3), (4, .int k4)]) hx hb dX13_leaf_52 hl (by decide) rfl (fun ls hl => ?_)
            refine lv_aload hx hb dX13_leaf_54 (lv_at hl 0 rfl) ?_
            refine lv_iload_n hx hb dX13_leaf_56 rfl (lv_at hl 3 rfl) ?_
            obtain ⟨fs31, hM31, hn31, hl31⟩ := hW.open_12 hb_30
            have hPc : va_P D vwCl ([] ++ va_pl L M) H_2 := hP.part (cx := []) [] rfl
            have hDc : va_D A ([] ++ va_pl L M) := hD.part (cx := []) [] (by decide) rfl
            have hFc : ∀ q, va_A ([] ++ va_pl L M) H_2.size q → A q := pg_free hDc hS hA
            refine va_calli (va_runV (As := [.int k2]) (rest := []) ⟨hx, hb, hml, hown, hg⟩ (r_X12_isFree l D cy K L M H_2.size b28 k2  hW hb_30) (cwV 1 hg (gV wd_807 wd_808 wd_809 wd_737 wd_810) rfl rfl rfl (by decide +kernel) ⟨(Nat.le_trans (Nat.le_of_ble_eq_true rfl) hRf), (Nat.le_trans (Nat.le_of_ble_eq_true rfl) hRl)⟩) ⟨PG.blind, pg_recv hK hP hb_30.1 hM31 rfl, fun U hU hW => ⟨rfl, PG.at hPc hK hDc hN hU hW⟩⟩ rfl rfl hl.1 rfl (lv_room (Nat.le_of_ble_eq_true rfl)) dX13_leaf_57 ⟨(Nat.le_trans (Nat.le_of_ble_eq_true rfl) hRc), (Nat.le_trans (Nat.le_of_ble_eq_true rfl) hRs)⟩) hS (fun q _ h => hFc q h) hFc (fun r_33 M_34 t H_32 locs ht hvm hw hB hz1 hk1 hS => ?_)
            have hp_35 := hw
            obtain ⟨hP1, hD1⟩ := hB
            rw [ht] at hP1
            obtain ⟨hP, hD⟩ := va_joinP (X := [(za, .inr (13, [.int 0, .ref z1, .int (nI z2), .int (nI z3), .int z4, .int z5, .ref z6, .ref z7, .ref z8, .ref z9, .int (nI z10), .ref z11, .ref z12, .ref z13, .ref z14, .ref z15, .int (nI z16), .ref z17, .int z18, .ref z19]))]) (cx := []) (wr := [(za, .inr (13, [.int 0, .ref z1, .int (nI z2), .int (nI z3), .int z4, .int z5, .ref z6, .ref z7, .ref z8, .ref z9, .int (nI z10), .ref z11, .ref z12, .ref z13, .ref z14, .ref z15, .int (nI z16), .ref z17, .int z18, .ref z19]))]) (rx := []) (pl := va_pl L M) (pl1 := va_pl L M) hP hD [] [0] rfl rfl (by decide) (by decide) hk1 hFc hP1 hD1
            have hP : va_P D vwCl ([(za, .inr (13, [.int 0, .ref z1, .int (nI z2), .int (nI z3), .int z4, .int z5, .ref z6, .ref z7, .ref z8, .ref z9, .int (nI z10), .ref z11, .ref z12, .ref z13, .ref z14, .ref z15, .int (nI z16), .ref z17, .int z18, .ref z19]))] ++ va_pl L M) H_32 := hP
            have hD : va_D A ([(za, .inr (13, [.int 0, .ref z1, .int (nI z2), .int (nI z3), .int z4, .int z5, .ref z6, .ref z7, .ref z8, .ref z9, .int (nI z10), .ref z11, .ref z12, .ref z13, .ref z14, .ref z15, .int (nI z16), .ref z17, .int z18, .ref z19]))] ++ va_pl L M) := hD
            rcases hp_35 with ⟨rfl, c_36, c_37⟩ | rfl
            · have hz := rfl (a := 0)
              refine lv_if_ne (tgt := 69) hx hb dX13_leaf_60 (by decide) (fun _ => ?_) (fun c_38 => absurd c_38 (by decide))
              refine lv_aload hx hb dX13_leaf_69 (lv_at hl 0 rfl) ?_
              obtain ⟨v39, hv39, hc39⟩ : ∃ v : Nat, fs31[2]? = some (.ref v : Value) ∧ isk K L v 37 1000 := hl31 2 (by decide)
              refine pg_getN (D := D) (ci := 12) (v := .ref v39) (C := RX12) (T := TX12) (N := 51) hx hb hg inG12 hown hK hP hb_30.1 hM31 rfl 2 (by decide) (hN.use (Cond.fieldLinkNest RX13 83 RX12 "places" "[I" RX13) 11 rfl rfl) (fun _ h9 => h9) hv39 dX13_leaf_71 ?_
              refine lv_iload_n hx hb dX13_leaf_74 rfl (lv_at hl 3 rfl) ?_
              refine lv_iload hx hb dX13_leaf_75 (lv_at hl 5 rfl) ?_
              obtain ⟨j_40, hj_41, rfl⟩ := i32nat 1000 (by decide) c_36 c_37
              obtain ⟨j_42, hj_43, rfl⟩ := i32nat 7 (by decide) c_20 (leB (b := 7) (c := 6) (by decide) (by decide) c_25)
              obtain ⟨f44, hM44, hf44⟩ := hW.open_37 hc39
              refine pg_iast hx hb hK hP hD hS hc39.1 0 hM44 rfl (inbN j_40 1000 (by omega) (by omega)) dX13_leaf_77 (fun H_45 locs hP hD hS => ?_)
              obtain ⟨M_46, eM_46⟩ : ∃ M1 : Hp, M1 = va_up M v39 (.inl (cy 14, 1000, .inl (upd f44 ((nI j_40) : Int32).toNatClampNeg (nI j_42)))) := ⟨_, rfl⟩
              have hP : va_P D vwCl ([(za, .inr (13, [.int 0, .ref z1, .int (nI z2), .int (nI z3), .int z4, .int z5, .ref z6, .ref z7, .ref z8, .ref z9, .int (nI z10), .ref z11, .ref z12, .ref z13, .ref z14, .ref z15, .int (nI z16), .ref z17, .int z18, .ref z19]))] ++ va_pl L M_46) H_45 := by rw [eM_46]; exact hP
              have hD : va_D A ([(za, .inr (13, [.int 0, .ref z1, .int (nI z2), .int (nI z3), .int z4, .int z5, .ref z6, .ref z7, .ref z8, .ref z9, .int (nI z10), .ref z11, .ref z12, .ref z13, .ref z14, .ref z15, .int (nI z16), .ref z17, .int z18, .ref z19]))] ++ va_pl L M_46) := by rw [eM_46]; exact hD
              have hW : WOM cy K L M_46 := by rw [eM_46]; exact hW.up_37 hc39 ⟨_, rfl, (updP (P := fun z => (z = -1 ∨ ∃ c : Nat, c < 7 ∧ z = nI c)) hf44 (Or.inr ⟨j_42, by omega, rfl⟩))⟩
              have hF : fr K L [12, 14, 35, 37, 74] M M_46 := by rw [eM_46]; exact hF.up hc39 (by decide)
              have hG : fG K L [16] M M_46 := by rw [eM_46]; exact hG.arr hc39 (by decide)
              have hM_47 : M_46 v39 = .inl (cy 14, 1000, .inl (upd f44 ((nI j_40) : Int32).toNatClampNeg (nI j_42))) := by rw [eM_46]; exact va_up_self _ _ _
              have hM_48 : M_46 z1 = .inl (cy 23, 8, .inr (.inr (.inr (.inr (f26))))) := by rw [eM_46, va_up_ne _ _ (i1.neT hc39 (by decide))]; exact hM26
              have hM_49 : M_46 b28 = .inr (12, fs31) := by rw [eM_46, va_up_ne _ _ (hb_30.neT hc39 (by decide))]; exact hM31
              have hf_51 : ∀ j, j < 1000 → ((upd f44 ((nI j_40) : Int32).toNatClampNeg (nI j_42)) j = -1 ∨ ∃ c : Nat, c < 7 ∧ (upd f44 ((nI j_40) : Int32).toNatClampNeg (nI j_42)) j = nI c) := (updP (P := fun z => (z = -1 ∨ ∃ c : Nat, c < 7 ∧ z = nI c)) hf44 (Or.inr ⟨j_42, by omega, rfl⟩))
              obtain ⟨f_50, ef_50⟩ : ∃ f : Nat → Int32, f = upd f44 ((nI j_40) : Int32).toNatClampNeg (nI j_42) := ⟨_, rfl⟩
              rw [← ef_50] at hM_47 hf_51
              clear ef_50
              refine lv_aload hx hb dX13_leaf_78 (lv_at hl 0 rfl) ?_
              obtain ⟨v52, hv52, hc52⟩ : ∃ v : Nat, fs31[3]? = some (.ref v : Value) ∧ isk K L v 35 1000 := hl31 3 (by decide)
              refine pg_getN (D := D) (ci := 12) (v := .ref v52) (C := RX12) (T := TX12) (N := 51) hx hb hg inG12 hown hK hP hb_30.1 hM_49 rfl 3 (by decide) (hN.use (Cond.fieldLinkNest RX13 157 RX12 "told" "[I" RX13) 12 rfl rfl) (fun _ h9 => h9) hv52 dX13_leaf_80 ?_
              refine lv_iload_n hx hb dX13_leaf_83 rfl (lv_at hl 3 rfl) ?_
              refine lv_iconst (v := 0) hx hb dX13_leaf_84 (by decide) ?_
              obtain ⟨f53, hM53, hf53⟩ := hW.open_35 hc52
              refine pg_iast hx hb hK hP hD hS hc52.1 0 hM53 rfl (inbN j_40 1000 (by omega) (by omega)) dX13_leaf_85 (fun H_54 locs hP hD hS => ?_)
              obtain ⟨M_55, eM_55⟩ : ∃ M1 : Hp, M1 = va_up M_46 v52 (.inl (cy 14, 1000, .inl (upd f53 ((nI j_40) : Int32).toNatClampNeg 0))) := ⟨_, rfl⟩
              have hP : va_P D vwCl ([(za, .inr (13, [.int 0, .ref z1, .int (nI z2), .int (nI z3), .int z4, .int z5, .ref z6, .ref z7, .ref z8, .ref z9, .int (nI z10), .ref z11, .ref z12, .ref z13, .ref z14, .ref z15, .int (nI z16), .ref z17, .int z18, .ref z19]))] ++ va_pl L M_55) H_54 := by rw [eM_55]; exact hP
              have hD : va_D A ([(za, .inr (13, [.int 0, .ref z1, .int (nI z2), .int (nI z3), .int z4, .int z5, .ref z6, .ref z7, .ref z8, .ref z9, .int (nI z10), .ref z11, .ref z12, .ref z13, .ref z14, .ref z15, .int (nI z16), .ref z17, .int z18, .ref z19]))] ++ va_pl L M_55) := by rw [eM_55]; exact hD
              have hW : WOM cy K L M_55 := by rw [eM_55]; exact hW.up_35 hc52 ⟨_, rfl, (updP (P := fun z => ∃ c : Nat, c < 7 ∧ z = nI c) hf53 ⟨0, by omega, rfl⟩)⟩
              have hF : fr K L [12, 14, 35, 37, 74] M M_55 := by rw [eM_55]; exact hF.up hc52 (by decide)
              have hG : fG K L [16] M M_55 := by rw [eM_55]; exact hG.arr hc52 (by decide)
              have hM_56 : M_55 v52 = .inl (cy 14, 1000, .inl (upd f53 ((nI j_40) : Int32).toNatClampNeg 0)) := by rw [eM_55]; exact va_up_self _ _ _
              have hM_57 : M_55 v39 = .inl (cy 14, 1000, .inl (f_50)) := by rw [eM_55, va_up_ne _ _ (hc39.neT hc52 (by decide))]; exact hM_47
              have hM_58 : M_55 z1 = .inl (cy 23, 8, .inr (.inr (.inr (.inr (f26))))) := by rw [eM_55, va_up_ne _ _ (i1.neT hc52 (by decide))]; exact hM_48
              have hM_59 : M_55 b28 = .inr (12, fs31) := by rw [eM_55, va_up_ne _ _ (hb_30.neT hc52 (by decide))]; exact hM_49
              have hf_61 : ∀ j, j < 1000 → ∃ c : Nat, c < 7 ∧ (upd f53 ((nI j_40) : Int32).toNatClampNeg 0) j = nI c := (updP (P := fun z => ∃ c : Nat, c < 7 ∧ z = nI c) hf53 ⟨0, by omega, rfl⟩)
              obtain ⟨f_60, ef_60⟩ : ∃ f : Nat → Int32, f = upd f53 ((nI j_40) : Int32).toNatClampNeg 0 := ⟨_, rfl⟩
              rw [← ef_60] at hM_56 hf_61
              clear ef_60
              refine lv_aload hx hb dX13_leaf_86 (lv_at hl 0 rfl) ?_
              obtain ⟨v62, hv62, hc62⟩ : ∃ v : Nat, fs31[4]? = some (.ref v : Value) ∧ isk K L v 74 1000 := hl31 4 (by decide)
              refine pg_getN (D := D) (ci := 12) (v := .ref v62) (C := RX12) (T := TX12) (N := 51) hx hb hg inG12 hown hK hP hb_30.1 hM_59 rfl 4 (by decide) (hN.use (Cond.fieldLinkNest RX13 158 RX12 "sort" "[I" RX13) 13 rfl rfl) (fun _ h9 => h9) hv62 dX13_leaf_88 ?_
              refine lv_iload_n hx hb dX13_leaf_91 rfl (lv_at hl 3 rfl) ?_
              refine lv_iload_n hx hb dX13_leaf_92 rfl (lv_at hl 4 rfl) ?_
              obtain ⟨f63, hM63⟩ := hW.open_74 hc62
              refine pg_iast hx hb hK hP hD hS hc62.1 0 hM63 rfl (inbN j_40 1000 (by omega) (by omega)) dX13_leaf_93 (fun H_64 locs hP hD hS => ?_)
              obtain ⟨M_65, eM_65⟩ : ∃ M1 : Hp, M1 = va_up M_55 v62 (.inl (cy 14, 1000, .inl (upd f63 ((nI j_40) : Int32).toNatClampNeg k3))) := ⟨_, rfl⟩
              have hP : va_P D vwCl ([(za, .inr (13, [.int 0, .ref z1, .int (nI z2), .int (nI z3), .int z4, .int z5, .ref z6, .ref z7, .ref z8, .ref z9, .int (nI z10), .ref z11, .ref z12, .ref z13, .ref z14, .ref z15, .int (nI z16), .ref z17, .int z18, .ref z19]))] ++ va_pl L M_65) H_64 := by rw [eM_65]; exact hP
              have hD : va_D A ([(za, .inr (13, [.int 0, .ref z1, .int (nI z2), .int (nI z3), .int z4, .int z5, .ref z6, .ref z7, .ref z8, .ref z9, .int (nI z10), .ref z11, .ref z12, .ref z13, .ref z14, .ref z15, .int (nI z16), .ref z17, .int z18, .ref z19]))] ++ va_pl L M_65) := by rw [eM_65]; exact hD
              have hW : WOM cy K L M_65 := by rw [eM_65]; exact hW.up_74 hc62 ⟨_, rfl⟩
              have hF : fr K L [12, 14, 35, 37, 74] M M_65 := by rw [eM_65]; exact hF.up hc62 (by decide)
              have hG : fG K L [16] M M_65 := by rw [eM_65]; exact hG.arr hc62 (by decide)
              have hM_66 : M_65 v62 = .inl (cy 14, 1000, .inl (upd f63 ((nI j_40) : Int32).toNatClampNeg k3)) := by rw [eM_65]; exact va_up_self _ _ _
              have hM_67 : M_65 v52 = .inl (cy 14, 1000, .inl (f_60)) := by rw [eM_65, va_up_ne _ _ (hc52.neT hc62 (by decide))]; exact hM_56
              have hM_68 : M_65 v39 = .inl (cy 14, 1000, .inl (f_50)) := by rw [eM_65, va_up_ne _ _ (hc39.neT hc62 (by decide))]; exact hM_57
              have hM_69 : M_65 z1 = .inl (cy 23, 8, .inr (.inr (.inr (.inr (f26))))) := by rw [eM_65, va_up_ne _ _ (i1.neT hc62 (by decide))]; exact hM_58
              have hM_70 : M_65 b28 = .inr (12, fs31) := by rw [eM_65, va_up_ne _ _ (hb_30.neT hc62 (by decide))]; exact hM_59
              obtain ⟨f_71, ef_71⟩ : ∃ f : Nat → Int32, f = upd f63 ((nI j_40) : Int32).toNatClampNeg k3 := ⟨_, rfl⟩
              rw [← ef_71] at hM_66
              clear ef_71
              refine lv_aload hx hb dX13_leaf_94 (lv_at hl 0 rfl) ?_
              refine lv_iconst (v := 0) hx hb dX13_leaf_96 (by decide) ?_
              refine pg_putN (D := D) (ci := 12) (v := .int 0) (ty := .int) (C := RX12) (T := TX12) (N := 51) hx hb hg inG12 tyX12 tyX12_ok nmX12 hown hK hP hD hS hb_30.1 hM_70 rfl 16 (by decide) (hN.use (Cond.fieldLinkNest RX13 161 RX12 "undone" "I" RX13) 25 rfl rfl) (fun _ h9 => h9) rfl (by decide +kernel) rfl rfl (by rw [hn31]; decide) dX13_leaf_97 (fun H_72 locs hP hD hS => ?_)
              have hs_75 : (fs31.set 16 (.int 0))[16]? = some (.int (nI 0)) := List.getElem?_set_self (by rw [hn31]; decide)
              have hk_74 := fld12_set (k := 16) (w := .int 0) hl31 (show fld12 K L 16 (fs31.set 16 (.int 0)) from ⟨0, hs_75, by omega⟩)
              have hn_76 : (fs31.set 16 (.int 0)).length = 51 := by rw [List.length_set]; exact hn31
              have hv_77 : (fs31.set 16 (.int 0))[2]? = some (.ref v39) := by rw [List.getElem?_set_ne (by decide)]; exact hv39
              have hv_78 : (fs31.set 16 (.int 0))[3]? = some (.ref v52) := by rw [List.getElem?_set_ne (by decide)]; exact hv52
              have hv_79 : (fs31.set 16 (.int 0))[4]? = some (.ref v62) := by rw [List.getElem?_set_ne (by decide)]; exact hv62
              have hb_80 : 0 ≤ 60 := by omega
              obtain ⟨M_81, eM_81⟩ : ∃ M1 : Hp, M1 = va_up M_65 b28 (.inr (12, fs31.set 16 (.int 0))) := ⟨_, rfl⟩
              have hP : va_P D vwCl ([(za, .inr (13, [.int 0, .ref z1, .int (nI z2), .int (nI z3), .int z4, .int z5, .ref z6, .ref z7, .ref z8, .ref z9, .int (nI z10), .ref z11, .ref z12, .ref z13, .ref z14, .ref z15, .int (nI z16), .ref z17, .int z18, .ref z19]))] ++ va_pl L M_81) H_72 := by rw [eM_81]; exact hP
              have hD : va_D A ([(za, .inr (13, [.int 0, .ref z1, .int (nI z2), .int (nI z3), .int z4, .int z5, .ref z6, .ref z7, .ref z8, .ref z9, .int (nI z10), .ref z11, .ref z12, .ref z13, .ref z14, .ref z15, .int (nI z16), .ref z17, .int z18, .ref z19]))] ++ va_pl L M_81) := by rw [eM_81]; exact hD
              have hW : WOM cy K L M_81 := by rw [eM_81]; exact hW.up_12 hb_30 ⟨_, rfl, hn_76, hk_74⟩
              have hF : fr K L [12, 14, 35, 37, 74] M M_81 := by rw [eM_81]; exact hF.up hb_30 (by decide)
              have hG : fG K L [16] M M_81 := by rw [eM_81]; exact hG.up hM_70 (by decide)
              have hM_82 : M_81 b28 = .inr (12, fs31.set 16 (.int 0)) := by rw [eM_81]; exact va_up_self _ _ _
              have hM_83 : M_81 v62 = .inl (cy 14, 1000, .inl (f_71)) := by rw [eM_81, va_up_ne _ _ (hc62.neT hb_30 (by decide))]; exact hM_66
              have hM_84 : M_81 v52 = .inl (cy 14, 1000, .inl (f_60)) := by rw [eM_81, va_up_ne _ _ (hc52.neT hb_30 (by decide))]; exact hM_67
              have hM_85 : M_81 v39 = .inl (cy 14, 1000, .inl (f_50)) := by rw [eM_81, va_up_ne _ _ (hc39.neT hb_30 (by decide))]; exact hM_68
              have hM_86 : M_81 z1 = .inl (cy 23, 8, .inr (.inr (.inr (.inr (f26))))) := by rw [eM_81, va_up_ne _ _ (i1.neT hb_30 (by decide))]; exact hM_69
              refine lv_aload_n hx hb dX13_leaf_100 rfl (lv_at hl 1 rfl) ?_
              refine lv_iload hx hb dX13_leaf_101 (lv_at hl 5 rfl) ?_
              have hPc := hP.sub (ws' := [(za, .inr (13, [.int 0, .ref z1, .int (nI z2), .int (nI z3), .int z4, .int z5, .ref z6, .ref z7, .ref z8, .ref z9, .int (nI z10), .ref z11, .ref z12, .ref z13, .ref z14, .ref z15, .int (nI z16), .ref z17, .int z18, .ref z19]))]) [0] rfl
              have hDc := hD.sub (ws' := [(za, .inr (13, [.int 0, .ref z1, .int (nI z2), .int (nI z3), .int z4, .int z5, .ref z6, .ref z7, .ref z8, .ref z9, .int (nI z10), .ref z11, .ref z12, .ref z13, .ref z14, .ref z15, .int (nI z16), .ref z17, .int z18, .ref z19]))]) [0] (by decide) rfl
              have hKc := hK.sub (tys' := []) [] rfl
              have hFc := va_free (wc := [(za, .inr (13, [.int 0, .ref z1, .int (nI z2), .int (nI z3), .int z4, .int z5, .ref z6, .ref z7, .ref z8, .ref z9, .int (nI z10), .ref z11, .ref z12, .ref z13, .ref z14, .ref z15, .int (nI z16), .ref z17, .int z18, .ref z19]))]) hD hS hA [0] rfl
              refine va_calli (va_runV (As := [.int (nI j_42)]) (rest := []) ⟨hx, hb, hml, hown, hg⟩ (m_done l D H_72.size za 0 z1 (nI z2) (nI z3) z4 z5 z6 z7 z8 z9 (nI z10) z11 z12 z13 z14 z15 (nI z16) z17 z18 z19 (nI j_42)) (cwV 1 hg (gV wd_730 wd_731 wd_732 wd_717 wd_733) rfl rfl rfl (by decide +kernel) ⟨(Nat.le_trans (Nat.le_of_ble_eq_true rfl) hRf), (Nat.le_trans (Nat.le_of_ble_eq_true rfl) hRl)⟩) ⟨Pr.blind, va_recv hK hP (ci := 13) (q0 := 0) rfl rfl, fun U hU hW => ⟨rfl, Pr.at hPc hKc hDc hN hU hW⟩⟩ rfl rfl hl.1 rfl (lv_room (Nat.le_of_ble_eq_true rfl)) dX13_leaf_103 ⟨(Nat.le_trans (Nat.le_of_ble_eq_true rfl) hRc), (Nat.le_trans (Nat.le_of_ble_eq_true rfl) hRs)⟩) hS (fun q _ h => hFc q h) hFc (fun r_88 M_89 t H_87 locs ht hvm hw hB hz1 hk1 hS => ?_)
              have hp_90 := hw
              obtain ⟨hP1, hK1, hD1⟩ := hB
              rw [ht] at hP1
              obtain ⟨hP, hD⟩ := va_joinQ (X := [(za, .inr (13, [.int 0, .ref z1, .int (nI z2), .int (nI z3), .int z4, .int z5, .ref z6, .ref z7, .ref z8, .ref z9, .int (nI z10), .ref z11, .ref z12, .ref z13, .ref z14, .ref z15, .int (nI z16), .ref z17, .int z18, .ref z19]))]) (cx := [(za, .inr (13, [.int 0, .ref z1, .int (nI z2), .int (nI z3), .int z4, .int z5, .ref z6, .ref z7, .ref z8, .ref z9, .int (nI z10), .ref z11, .ref z12, .ref z13, .ref z14, .ref z15, .int (nI z16), .ref z17, .int z18, .ref z19]))]) (wr := []) (w1 := [(za, .inr (13, [.int 0, .ref z1, .int (nI z2), .int (nI z3), .int 0, .int (-1), .ref z6, .ref z7, .ref z8, .ref z9, .int (nI z10), .ref z11, .ref z12, .ref z13, .ref z14, .ref z15, .int (nI z16), .ref z17, .int z18, .ref z19]))]) (pl := va_pl L M_81) hP hD [0] [] rfl rfl (by decide) (by decide) hk1 hFc hP1 hD1
              have hP : va_P D vwCl ([(za, .inr (13, [.int 0, .ref z1, .int (nI z2), .int (nI z3), .int 0, .int (-1), .ref z6, .ref z7, .ref z8, .ref z9, .int (nI z10), .ref z11, .ref z12, .ref z13, .ref z14, .ref z15, .int (nI z16), .ref z17, .int z18, .ref z19]))] ++ va_pl L M_81) H_87 := hP
              have hD : va_D A ([(za, .inr (13, [.int 0, .ref z1, .int (nI z2), .int (nI z3), .int 0, .int (-1), .ref z6, .ref z7, .ref z8, .ref z9, .int (nI z10), .ref z11, .ref z12, .ref z13, .ref z14, .ref z15, .int (nI z16), .ref z17, .int z18, .ref z19]))] ++ va_pl L M_81) := hD
              have hq := Eq.symm hp_90
              subst hq
              rw [hQ]
              exact W.iret (v := (nI j_42)) hx hb hr (fun t ht hW9 => ⟨⟨(nI j_42), M_81, rfl, ⟨hW, hF, hG, trivial⟩, ⟨0, (-1), by rw [ht]; exact hP, hD⟩⟩, hS.F ht⟩) hS.2.2 dX13_leaf_106
            · have hz := rfl (a := 0)
              refine lv_if_ne (tgt := 69) hx hb dX13_leaf_60 (by decide) (fun c_91 => absurd c_91 (by decide)) (fun _ => ?_)
              refine lv_aload_n hx hb dX13_leaf_63 rfl (lv_at hl 1 rfl) ?_
              refine lv_iconst (v := 3) hx hb dX13_leaf_64 (by decide) ?_
              have hPc := hP.sub (ws' := [(za, .inr (13, [.int 0, .ref z1, .int (nI z2), .int (nI z3), .int z4, .int z5, .ref z6, .ref z7, .ref z8, .ref z9, .int (nI z10), .ref z11, .ref z12, .ref z13, .ref z14, .ref z15, .int (nI z16), .ref z17, .int z18, .ref z19]))]) [0] rfl
              have hDc := hD.sub (ws' := [(za, .inr (13, [.int 0, .ref z1, .int (nI z2), .int (nI z3), .int z4, .int z5, .ref z6, .ref z7, .ref z8, .ref z9, .int (nI z10), .ref z11, .ref z12, .ref z13, .ref z14, .ref z15, .int (nI z16), .ref z17, .int z18, .ref z19]))]) [0] (by decide) rfl
              have hKc := hK.sub (tys' := []) [] rfl
              have hFc := va_free (wc := [(za, .inr (13, [.int 0, .ref z1, .int (nI z2), .int (nI z3), .int z4, .int z5, .ref z6, .ref z7, .ref z8, .ref z9, .int (nI z10), .ref z11, .ref z12, .ref z13, .ref z14, .ref z15, .int (nI z16), .ref z17, .int z18, .ref z19]))]) hD hS hA [0] rfl
              refine va_calli (va_runV (As := [.int 3]) (rest := []) ⟨hx, hb, hml, hown, hg⟩ (m_refused l D H_32.size za 0 z1 (nI z2) (nI z3) z4 z5 z6 z7 z8 z9 (nI z10) z11 z12 z13 z14 z15 (nI z16) z17 z18 z19 3) (cwV 1 hg (gV wd_725 wd_726 wd_727 wd_717 wd_728) rfl rfl rfl (by decide +kernel) ⟨(Nat.le_trans (Nat.le_of_ble_eq_true rfl) hRf), (Nat.le_trans (Nat.le_of_ble_eq_true rfl) hRl)⟩) ⟨Pr.blind, va_recv hK hP (ci := 13) (q0 := 0) rfl rfl, fun U hU hW => ⟨rfl, Pr.at hPc hKc hDc hN hU hW⟩⟩ rfl rfl hl.1 rfl (lv_room (Nat.le_of_ble_eq_true rfl)) dX13_leaf_65 ⟨(Nat.le_trans (Nat.le_of_ble_eq_true rfl) hRc), (Nat.le_trans (Nat.le_of_ble_eq_true rfl) hRs)⟩) hS (fun q _ h => hFc q h) hFc (fun r_93 M_94 t H_92 locs ht hvm hw hB hz1 hk1 hS => ?_)
              have hp_95 := hw
              obtain ⟨hP1, hK1, hD1⟩ := hB
              rw [ht] at hP1
              obtain ⟨hP, hD⟩ := va_joinQ (X := [(za, .inr (13, [.int 0, .ref z1, .int (nI z2), .int (nI z3), .int z4, .int z5, .ref z6, .ref z7, .ref z8, .ref z9, .int (nI z10), .ref z11, .ref z12, .ref z13, .ref z14, .ref z15, .int (nI z16), .ref z17, .int z18, .ref z19]))]) (cx := [(za, .inr (13, [.int 0, .ref z1, .int (nI z2), .int (nI z3), .int z4, .int z5, .ref z6, .ref z7, .ref z8, .ref z9, .int (nI z10), .ref z11, .ref z12, .ref z13, .ref z14, .ref z15, .int (nI z16), .ref z17, .int z18, .ref z19]))]) (wr := []) (w1 := [(za, .inr (13, [.int 0, .ref z1, .int (nI z2), .int (nI z3), .int 3, .int (-1), .ref z6, .ref z7, .ref z8, .ref z9, .int (nI z10), .ref z11, .ref z12, .ref z13, .ref z14, .ref z15, .int (nI z16), .ref z17, .int z18, .ref z19]))]) (pl := va_pl L M) hP hD [0] [] rfl rfl (by decide) (by decide) hk1 hFc hP1 hD1
              have hP : va_P D vwCl ([(za, .inr (13, [.int 0, .ref z1, .int (nI z2), .int (nI z3), .int 3, .int (-1), .ref z6, .ref z7, .ref z8, .ref z9, .int (nI z10), .ref z11, .ref z12, .ref z13, .ref z14, .ref z15, .int (nI z16), .ref z17, .int z18, .ref z19]))] ++ va_pl L M) H_92 := hP
              have hD : va_D A ([(za, .inr (13, [.int 0, .ref z1, .int (nI z2), .int (nI z3), .int 3, .int (-1), .ref z6, .ref z7, .ref z8, .ref z9, .int (nI z10), .ref z11, .ref z12, .ref z13, .ref z14, .ref z15, .int (nI z16), .ref z17, .int z18, .ref z19]))] ++ va_pl L M) := hD
              have hq := Eq.symm hp_95
              subst hq
              rw [hQ]
              exact W.iret (v := (-1)) hx hb hr (fun t ht hW9 => ⟨⟨(-1), M, rfl, ⟨hW, hF, hG, trivial⟩, ⟨3, (-1), by rw [ht]; exact hP, hD⟩⟩, hS.F ht⟩) hS.2.2 dX13_leaf_68
          · have hz := rfl (a := 0)
            have n_96 : ¬ k4 < 0 := gtN (c := 6) (by omega) (Int32.not_le.mp c_25)
            refine lv_aload_n hx hb dX13_leaf_40 rfl (lv_at hl 0 rfl) ?_
            refine lv_iconst (v := 2) hx hb dX13_leaf_41 (by decide) ?_
            have hPc := hP.sub (ws' := [(za, .inr (13, [.int 0, .ref z1, .int (nI z2), .int (nI z3), .int z4, .int z5, .ref z6, .ref z7, .ref z8, .ref z9, .int (nI z10), .ref z11, .ref z12, .ref z13, .ref z14, .ref z15, .int (nI z16), .ref z17, .int z18, .ref z19]))]) [0] rfl
            have hDc := hD.sub (ws' := [(za, .inr (13, [.int 0, .ref z1, .int (nI z2), .int (nI z3), .int z4, .int z5, .ref z6, .ref z7, .ref z8, .ref z9, .int (nI z10), .ref z11, .ref z12, .ref z13, .ref z14, .ref z15, .int (nI z16), .ref z17, .int z18, .ref z19]))]) [0] (by decide) rfl
            have hKc := hK.sub (tys' := []) [] rfl
            have hFc := va_free (wc := [(za, .inr (13, [.int 0, .ref z1, .int (nI z2), .int (nI z3), .int z4, .int z5, .ref z6, .ref z7, .ref z8, .ref z9, .int (nI z10), .ref z11, .ref z12, .ref z13, .ref z14, .ref z15, .int (nI z16), .ref z17, .int z18, .ref z19]))]) hD hS hA [0] rfl
            refine va_calli (va_runV (As := [.int 2]) (rest := []) ⟨hx, hb, hml, hown, hg⟩ (m_refused l D H_2.size za 0 z1 (nI z2) (nI z3) z4 z5 z6 z7 z8 z9 (nI z10) z11 z12 z13 z14 z15 (nI z16) z17 z18 z19 2) (cwV 1 hg (gV wd_725 wd_726 wd_727 wd_717 wd_728) rfl rfl rfl (by decide +kernel) ⟨(Nat.le_trans (Nat.le_of_ble_eq_true rfl) hRf), (Nat.le_trans (Nat.le_of_ble_eq_true rfl) hRl)⟩) ⟨Pr.blind, va_recv hK hP (ci := 13) (q0 := 0) rfl rfl, fun U hU hW => ⟨rfl, Pr.at hPc hKc hDc hN hU hW⟩⟩ rfl rfl hl.1 rfl (lv_room (Nat.le_of_ble_eq_true rfl)) dX13_leaf_42 ⟨(Nat.le_trans (Nat.le_of_ble_eq_true rfl) hRc), (Nat.le_trans (Nat.le_of_ble_eq_true rfl) hRs)⟩) hS (fun q _ h => hFc q h) hFc (fun r_98 M_99 t H_97 locs ht hvm hw hB hz1 hk1 hS => ?_)
            have hp_100 := hw
            obtain ⟨hP1, hK1, hD1⟩ := hB
            rw [ht] at hP1
            obtain ⟨hP, hD⟩ := va_joinQ (X := [(za, .inr (13, [.int 0, .ref z1, .int (nI z2), .int (nI z3), .int z4, .int z5, .ref z6, .ref z7, .ref z8, .ref z9, .int (nI z10), .ref z11, .ref z12, .ref z13, .ref z14, .ref z15, .int (nI z16), .ref z17, .int z18, .ref z19]))]) (cx := [(za, .inr (13, [.int 0, .ref z1, .int (nI z2), .int (nI z3), .int z4, .int z5, .ref z6, .ref z7, .ref z8, .ref z9, .int (nI z10), .ref z11, .ref z12, .ref z13, .ref z14, .ref z15, .int (nI z16), .ref z17, .int z18, .ref z19]))]) (wr := []) (w1 := [(za, .inr (13, [.int 0, .ref z1, .int (nI z2), .int (nI z3), .int 2, .int (-1), .ref z6, .ref z7, .ref z8, .ref z9, .int (nI z10), .ref z11, .ref z12, .ref z13, .ref z14, .ref z15, .int (nI z16), .ref z17, .int z18, .ref z19]))]) (pl := va_pl L M) hP hD [0] [] rfl rfl (by decide) (by decide) hk1 hFc hP1 hD1
            have hP : va_P D vwCl ([(za, .inr (13, [.int 0, .ref z1, .int (nI z2), .int (nI z3), .int 2, .int (-1), .ref z6, .ref z7, .ref z8, .ref z9, .int (nI z10), .ref z11, .ref z12, .ref z13, .ref z14, .ref z15, .int (nI z16), .ref z17, .int z18, .ref z19]))] ++ va_pl L M) H_97 := hP
            have hD : va_D A ([(za, .inr (13, [.int 0, .ref z1, .int (nI z2), .int (nI z3), .int 2, .int (-1), .ref z6, .ref z7, .ref z8, .ref z9, .int (nI z10), .ref z11, .ref z12, .ref z13, .ref z14, .ref z15, .int (nI z16), .ref z17, .int z18, .ref z19]))] ++ va_pl L M) := hD
            have hq := Eq.symm hp_100
            subst hq
            rw [hQ]
            exact W.iret (v := (-1)) hx hb hr (fun t ht hW9 => ⟨⟨(-1), M, rfl, ⟨hW, hF, hG, trivial⟩, ⟨2, (-1), by rw [ht]; exact hP, hD⟩⟩, hS.F ht⟩) hS.2.2 dX13_leaf_45
  · have hz := rfl (a := 0)
    refine lv_if_ne (tgt := 19) hx hb dX13_leaf_10 (by decide) (fun c_101 => absurd c_101 (by decide)) (fun _ => ?_)
    refine lv_aload_n hx hb dX13_leaf_13 rfl (lv_at hl 0 rfl) ?_
    refine lv_iconst (v := 1) hx hb dX13_leaf_14 (by decide) ?_
    have hPc := hP.sub (ws' := [(za, .inr (13, [.int 0, .ref z1, .int (nI z2), .int (nI z3), .int z4, .int z5, .ref z6, .ref z7, .ref z8, .ref z9, .int (nI z10), .ref z11, .ref z12, .ref z13, .ref z14, .ref z15, .int (nI z16), .ref z17, .int z18, .ref z19]))]) [0] rfl
    have hDc := hD.sub (ws' := [(za, .inr (13, [.int 0, .ref z1, .int (nI z2), .int (nI z3), .int z4, .int z5, .ref z6, .ref z7, .ref z8, .ref z9, .int (nI z10), .ref z11, .ref z12, .ref z13, .ref z14, .ref z15, .int (nI z16), .ref z17, .int z18, .ref z19]))]) [0] (by decide) rfl
    have hKc := hK.sub (tys' := []) [] rfl
    have hFc := va_free (wc := [(za, .inr (13, [.int 0, .ref z1, .int (nI z2), .int (nI z3), .int z4, .int z5, .ref z6, .ref z7, .ref z8, .ref z9, .int (nI z10), .ref z11, .ref z12, .ref z13, .ref z14, .ref z15, .int (nI z16), .ref z17, .int z18, .ref z19]))]) hD hS hA [0] rfl
    refine va_calli (va_runV (As := [.int 1]) (rest := []) ⟨hx, hb, hml, hown, hg⟩ (m_refused l D H_2.size za 0 z1 (nI z2) (nI z3) z4 z5 z6 z7 z8 z9 (nI z10) z11 z12 z13 z14 z15 (nI z16) z17 z18 z19 1) (cwV 1 hg (gV wd_725 wd_726 wd_727 wd_717 wd_728) rfl rfl rfl (by decide +kernel) ⟨(Nat.le_trans (Nat.le_of_ble_eq_true rfl) hRf), (Nat.le_trans (Nat.le_of_ble_eq_true rfl) hRl)⟩) ⟨Pr.blind, va_recv hK hP (ci := 13) (q0 := 0) rfl rfl, fun U hU hW => ⟨rfl, Pr.at hPc hKc hDc hN hU hW⟩⟩ rfl rfl hl.1 rfl (lv_room (Nat.le_of_ble_eq_true rfl)) dX13_leaf_15 ⟨(Nat.le_trans (Nat.le_of_ble_eq_true rfl) hRc), (Nat.le_trans (Nat.le_of_ble_eq_true rfl) hRs)⟩) hS (fun q _ h => hFc q h) hFc (fun r_103 M_104 t H_102 locs ht hvm hw hB hz1 hk1 hS => ?_)
    have hp_105 := hw
    obtain ⟨hP1, hK1, hD1⟩ := hB
    rw [ht] at hP1
    obtain ⟨hP, hD⟩ := va_joinQ (X := [(za, .inr (13, [.int 0, .ref z1, .int (nI z2), .int (nI z3), .int z4, .int z5, .ref z6, .ref z7, .ref z8, .ref z9, .int (nI z10), .ref z11, .ref z12, .ref z13, .ref z14, .ref z15, .int (nI z16), .ref z17, .int z18, .ref z19]))]) (cx := [(za, .inr (13, [.int 0, .ref z1, .int (nI z2), .int (nI z3), .int z4, .int z5, .ref z6, .ref z7, .ref z8, .ref z9, .int (nI z10), .ref z11, .ref z12, .ref z13, .ref z14, .ref z15, .int (nI z16), .ref z17, .int z18, .ref z19]))]) (wr := []) (w1 := [(za, .inr (13, [.int 0, .ref z1, .int (nI z2), .int (nI z3), .int 1, .int (-1), .ref z6, .ref z7, .ref z8, .ref z9, .int (nI z10), .ref z11, .ref z12, .ref z13, .ref z14, .ref z15, .int (nI z16), .ref z17, .int z18, .ref z19]))]) (pl := va_pl L M) hP hD [0] [] rfl rfl (by decide) (by decide) hk1 hFc hP1 hD1
    have hP : va_P D vwCl ([(za, .inr (13, [.int 0, .ref z1, .int (nI z2), .int (nI z3), .int 1, .int (-1), .ref z6, .ref z7, .ref z8, .ref z9, .int (nI z10), .ref z11, .ref z12, .ref z13, .ref z14, .ref z15, .int (nI z16), .ref z17, .int z18, .ref z19]))] ++ va_pl L M) H_102 := hP
    have hD : va_D A ([(za, .inr (13, [.int 0, .ref z1, .int (nI z2), .int (nI z3), .int 1, .int (-1), .ref z6, .ref z7, .ref z8, .ref z9, .int (nI z10), .ref z11, .ref z12, .ref z13, .ref z14, .ref z15, .int (nI z16), .ref z17, .int z18, .ref z19]))] ++ va_pl L M) := hD
    have hq := Eq.symm hp_105
    subst hq
    rw [hQ]
    exact W.iret (v := (-1)) hx hb hr (fun t ht hW9 => ⟨⟨(-1), M, rfl, ⟨hW, hF, hG, trivial⟩, ⟨1, (-1), by rw [ht]; exact hP, hD⟩⟩, hS.F ht⟩) hS.2.2 dX13_leaf_18
set_option maxHeartbeats 4000000 in
set_option maxRecDepth 100000 in
theorem r_X13_tear (l : Launch) (D : va_G) (cy : Nat → ClassId) (K : Kp) (L : List Nat) (M : Hp) (sz : Nat) (za : Nat) (z0 : Int32) (z1 : Nat) (z2 : Nat) (z3 : Nat) (z4 : Int32) (z5 : Int32) (z6 : Nat) (z7 : Nat) (z8 : Nat) (z9 : Nat) (z10 : Nat) (z11 : Nat) (z12 : Nat) (z13 : Nat) (z14 : Nat) (z15 : Nat) (z16 : Nat) (z17 : Nat) (z18 : Int32) (z19 : Nat) (k1 : Int32) (k2 : Int32) (hW : WOM cy K L M) (i1 : isk K L z1 23 8) (b2 : z2 ≤ 8) (b3 : z3 ≤ 40) (i6 : isk K L z6 47 40) (i7 : isk K L z7 48 40) (i8 : isk K L z8 49 8) (i9 : isk K L z9 50 8) (b10 : z10 ≤ 8) (i11 : isk K L z11 32 24) (i12 : isk K L z12 14 24) (i13 : isk K L z13 15 24) (i14 : isk K L z14 15 24) (i15 : isk K L z15 15 24) (b16 : z16 ≤ 24) (i17 : isk K L z17 14 24) (i19 : isk K L z19 15 25) : Met l yX13_tear (wsM yX13_tear cX13_tear 5 (some .int)) ({ frames := 1, cells := 0, slots := 0, locals := 21 }) (va_Pc [.ref za, .int k1, .int k2] (PG D cy [(za, .inr (13, [.int z0, .ref z1, .int (nI z2), .int (nI z3), .int z4, .int z5, .ref z6, .ref z7, .ref z8, .ref z9, .int (nI z10), .ref z11, .ref z12, .ref z13, .ref z14, .ref z15, .int (nI z16), .ref z17, .int z18, .ref z19]))] L M sz)) (va_Qi (fun (r : Int32) (M9 : Hp) => WOM cy K L M9 ∧ fr K L [12, 35, 37] M M9 ∧ fG K L [16] M M9 ∧ (True)) (fun M9 t => ∃ (w4 : Int32) (w5 : Int32), PQ D [(za, .inr (13, [.int 0, .ref z1, .int (nI z2), .int (nI z3), .int w4, .int w5, .ref z6, .ref z7, .ref z8, .ref z9, .int (nI z10), .ref z11, .ref z12, .ref z13, .ref z14, .ref z15, .int (nI z16), .ref z17, .int z18, .ref z19]))] L M9 (va_A ([(za, .inr (13, [.int z0, .ref z1, .int (nI z2), .int (nI z3), .int z4, .int z5, .ref z6, .ref z7, .ref z8, .ref z9, .int (nI z10), .ref z11, .ref z12, .ref z13, .ref z14, .ref z15, .int (nI z16), .ref z17, .int z18, .ref z19]))] ++ va_pl L M) sz) t) (va_A ([(za, .inr (13, [.int z0, .ref z1, .int (nI z2), .int (nI z3), .int z4, .int z5, .ref z6, .ref z7, .ref z8, .ref z9, .int (nI z10), .ref z11, .ref z12, .ref z13, .ref z14, .ref z15, .int (nI z16), .ref z17, .int z18, .ref z19]))] ++ va_pl L M) sz)) 0 0 (va_A ([(za, .inr (13, [.int z0, .ref z1, .int (nI z2), .int (nI z3), .int z4, .int z5, .ref z6, .ref z7, .ref z8, .ref z9, .int (nI z10), .ref z11, .ref z12, .ref z13, .ref z14, .ref z15, .int (nI z16), .ref z17, .int z18, .ref z19]))] ++ va_pl L M) sz) := by
  refine Met.ofW (cc := cX13_tear) (maxL := 5) (ret := (some .int)) (by decide) rfl ?_
  intro p e s m args below meth c s₁ B hml hv
  obtain ⟨rfl, hsz, hP, hK, hD0, hN⟩ := hv
  have hx := B.exec
  have hb := B.bytes
  have hr := B.returns
  have hts := atoms_spec (ws := (wsM yX13_tear cX13_tear 5 (some .int))) B.pre
  have hg : ∀ w ∈ lw_good, w.before _ s = true := fun w h => hts w (List.mem_cons_of_mem _ h)
  have hown : s.vm.findClass RX13 = some m.cls := findClass_of_methodNamed B.named
  have hlocks := B.notSynchronized
  subst hsz
  have hD := hD0.self (sz := s.heap.size)
  generalize hAe : va_A ([(za, .inr (13, [.int z0, .ref z1, .int (nI z2), .int (nI z3), .int z4, .int z5, .ref z6, .ref z7, .ref z8, .ref z9, .int (nI z10), .ref z11, .ref z12, .ref z13, .ref z14, .ref z15, .int (nI z16), .ref z17, .int z18, .ref z19]))] ++ va_pl L M) s.heap.size = A at hD ⊢
  have hA : ∀ q : Nat, s.heap.size ≤ q → A q := fun q h => by rw [← hAe]; exact Or.inr h
  have hS : va_S A s.heap s.heap [] := va_S.rf
  have hl := lv_entry ([.ref za, .int k1, .int k2]) (n := 5) (Nat.le_of_ble_eq_true rfl)
  rw [lg_entry_eq]
  generalize (lg_sl ([.ref za, .int k1, .int k2]) ++ List.replicate (5 - (lg_sl ([.ref za, .int k1, .int k2])).length) Slot.unset).toArray = ls at hl ⊢
  refine W.nameQ (fun Q hQ => ?_)
  refine W.nameR (fun R hR => ?_)
  have hRf : 1 ≤ R.frames := by rw [hR]; exact Nat.le_of_ble_eq_true rfl
  have hRl : 21 ≤ R.locals := by rw [hR]; exact Nat.le_of_ble_eq_true rfl
  have hRc : 0 ≤ R.cells := by rw [hR]; exact Nat.le_of_ble_eq_true rfl
  have hRs : 0 ≤ R.slots := by rw [hR]; exact Nat.le_of_ble_eq_true rfl
  have hF : fr K L [12, 35, 37] M M := fr.rf
  have hG : fG K L [16] M M := fG.rf
  have hl : lv_has ls 5 [(0, .ref za), (1, .int k1), (2, .int k2)] := hl
  refine lv_aload_n hx hb dX13_tear_0 rfl (lv_at hl 0 rfl) ?_
  refine lv_iconst (v := 0) hx hb dX13_tear_1 (by decide) ?_
  refine va_put (D := D) (ci := 13) (v := .int 0) (ty := .int) (C := RX13) (T := TX13) (N := 20) hx hb hg inG13 tyX13 tyX13_ok nmX13 hown hK hP hD hS 0 rfl rfl 0 (by decide) (hg _ wd_720) (fun _ h9 => h9) rfl (by decide +kernel) rfl rfl (Nat.le_of_ble_eq_true rfl) dX13_tear_2 (fun H_1 locs hP hD hS => ?_)
  have hP : va_P D vwCl ([(za, .inr (13, [.int 0, .ref z1, .int (nI z2), .int (nI z3), .int z4, .int z5, .ref z6, .ref z7, .ref z8, .ref z9, .int (nI z10), .ref z11, .ref z12, .ref z13, .ref z14, .ref z15, .int (nI z16), .ref z17, .int z18, .ref z19]))] ++ va_pl L M) H_1 := hP
  have hD : va_D A ([(za, .inr (13, [.int 0, .ref z1, .int (nI z2), .int (nI z3), .int z4, .int z5, .ref z6, .ref z7, .ref z8, .ref z9, .int (nI z10), .ref z11, .ref z12, .ref z13, .ref z14, .ref z15, .int (nI z16), .ref z17, .int z18, .ref z19]))] ++ va_pl L M) := hD
  refine lv_aload_n hx hb dX13_tear_5 rfl (lv_at hl 0 rfl) ?_
  refine lv_iload_n hx hb dX13_tear_6 rfl (lv_at hl 1 rfl) ?_
  have hPc : va_P D vwCl ([(za, .inr (13, [.int 0, .ref z1, .int (nI z2), .int (nI z3), .int z4, .int z5, .ref z6, .ref z7, .ref z8, .ref z9, .int (nI z10), .ref z11, .ref z12, .ref z13, .ref z14, .ref z15, .int (nI z16), .ref z17, .int z18, .ref z19]))] ++ va_pl L M) H_1 := hP
  have hDc : va_D A ([(za, .inr (13, [.int 0, .ref z1, .int (nI z2), .int (nI z3), .int z4, .int z5, .ref z6, .ref z7, .ref z8, .ref z9, .int (nI z10), .ref z11, .ref z12, .ref z13, .ref z14, .ref z15, .int (nI z16), .ref z17, .int z18, .ref z19]))] ++ va_pl L M) := hD
  have hFc : ∀ q, va_A ([(za, .inr (13, [.int 0, .ref z1, .int (nI z2), .int (nI z3), .int z4, .int z5, .ref z6, .ref z7, .ref z8, .ref z9, .int (nI z10), .ref z11, .ref z12, .ref z13, .ref z14, .ref z15, .int (nI z16), .ref z17, .int z18, .ref z19]))] ++ va_pl L M) H_1.size q → A q := pg_free hDc hS hA
  refine va_calli (va_runV (As := [.int k1]) (rest := []) ⟨hx, hb, hml, hown, hg⟩ (r_X13_isHouse l D cy K L M H_1.size za 0 z1 z2 z3 z4 z5 z6 z7 z8 z9 z10 z11 z12 z13 z14 z15 z16 z17 z18 z19 k1  hW i1 b2 b3 i6 i7 i8 i9 b10 i11 i12 i13 i14 i15 b16 i17 i19) (cwV 1 hg (gV wd_714 wd_715 wd_716 wd_717 wd_718) rfl rfl rfl (by decide +kernel) ⟨(Nat.le_trans (Nat.le_of_ble_eq_true rfl) hRf), (Nat.le_trans (Nat.le_of_ble_eq_true rfl) hRl)⟩) ⟨PG.blind, va_recv hK hP (ci := 13) (q0 := 0) rfl rfl, fun U hU hW => ⟨rfl, PG.at hPc hK hDc hN hU hW⟩⟩ rfl rfl hl.1 rfl (lv_room (Nat.le_of_ble_eq_true rfl)) dX13_tear_7 ⟨(Nat.le_trans (Nat.le_of_ble_eq_true rfl) hRc), (Nat.le_trans (Nat.le_of_ble_eq_true rfl) hRs)⟩) hS (fun q _ h => hFc q h) hFc (fun r_3 M_4 t H_2 locs ht hvm hw hB hz1 hk1 hS => ?_)
  have hp_5 := hw
  obtain ⟨hP1, hD1⟩ := hB
  rw [ht] at hP1
  have hP : va_P D vwCl ([(za, .inr (13, [.int 0, .ref z1, .int (nI z2), .int (nI z3), .int z4, .int z5, .ref z6, .ref z7, .ref z8, .ref z9, .int (nI z10), .ref z11, .ref z12, .ref z13, .ref z14, .ref z15, .int (nI z16), .ref z17, .int z18, .ref z19]))] ++ va_pl L M) H_2 := hP1
  have hD : va_D A ([(za, .inr (13, [.int 0, .ref z1, .int (nI z2), .int (nI z3), .int z4, .int z5, .ref z6, .ref z7, .ref z8, .ref z9, .int (nI z10), .ref z11, .ref z12, .ref z13, .ref z14, .ref z15, .int (nI z16), .ref z17, .int z18, .ref z19]))] ++ va_pl L M) := hD1.mono hFc
  rcases hp_5 with ⟨rfl, c_6, c_7⟩ | rfl
  · have hz := rfl (a := 0)
    refine lv_if_ne (tgt := 19) hx hb dX13_tear_10 (by decide) (fun _ => ?_) (fun c_8 => absurd c_8 (by decide))
    refine lv_aload_n hx hb dX13_tear_19 rfl (lv_at hl 0 rfl) ?_
    refine va_get (D := D) (ci := 13) (v := .ref z1) (C := RX13) (T := TX13) (N := 20) hx hb hg inG13 hown hK hP 0 rfl rfl 1 (by decide) (hg _ wd_739) (fun _ h9 => h9) rfl dX13_tear_20 ?_
    refine lv_iload_n hx hb dX13_tear_23 rfl (lv_at hl 1 rfl) ?_
    obtain ⟨f9, hM9, hf9⟩ := hW.open_23 i1
    have hi_10 : vp_in k1 8 := (inbW (a := z2) (by omega) (inb k1 z2 (by omega) c_6 c_7))
    refine pg_aldq hx hb hK hP i1.1 9 hM9 rfl hi_10 dX13_tear_24 ?_
    obtain ⟨b11, eb_12, hb_13⟩ := hf9 _ (vp_lt hi_10)
    rw [eb_12]
    refine lv_astore_n (lv' := [(3, .ref b11), (0, .ref za), (1, .int k1), (2, .int k2)]) hx hb dX13_tear_25 rfl hl (by decide) rfl (fun ls hl => ?_)
    refine lv_aload_n hx hb dX13_tear_26 rfl (lv_at hl 0 rfl) ?_
    refine lv_iload_n hx hb dX13_tear_27 rfl (lv_at hl 3 rfl) ?_
    obtain ⟨fs14, hM14, hn14, hl14⟩ := hW.open_12 hb_13
    have hPc : va_P D vwCl ([] ++ va_pl L M) H_2 := hP.part (cx := []) [] rfl
    have hDc : va_D A ([] ++ va_pl L M) := hD.part (cx := []) [] (by decide) rfl
    have hFc : ∀ q, va_A ([] ++ va_pl L M) H_2.size q → A q := pg_free hDc hS hA
    refine va_calli (va_runV (As := [.int k2]) (rest := []) ⟨hx, hb, hml, hown, hg⟩ (r_X12_isFree l D cy K L M H_2.size b11 k2  hW hb_13) (cwV 1 hg (gV wd_807 wd_808 wd_809 wd_737 wd_810) rfl rfl rfl (by decide +kernel) ⟨(Nat.le_trans (Nat.le_of_ble_eq_true rfl) hRf), (Nat.le_trans (Nat.le_of_ble_eq_true rfl) hRl)⟩) ⟨PG.blind, pg_recv hK hP hb_13.1 hM14 rfl, fun U hU hW => ⟨rfl, PG.at hPc hK hDc hN hU hW⟩⟩ rfl rfl hl.1 rfl (lv_room (Nat.le_of_ble_eq_true rfl)) dX13_tear_28 ⟨(Nat.le_trans (Nat.le_of_ble_eq_true rfl) hRc), (Nat.le_trans (Nat.le_of_ble_eq_true rfl) hRs)⟩) hS (fun q _ h => hFc q h) hFc (fun r_16 M_17 t H_15 locs ht hvm hw hB hz1 hk1 hS => ?_)
    have hp_18 := hw
    obtain ⟨hP1, hD1⟩ := hB
    rw [ht] at hP1
    obtain ⟨hP, hD⟩ := va_joinP (X := [(za, .inr (13, [.int 0, .ref z1, .int (nI z2), .int (nI z3), .int z4, .int z5, .ref z6, .ref z7, .ref z8, .ref z9, .int (nI z10), .ref z11, .ref z12, .ref z13, .ref z14, .ref z15, .int (nI z16), .ref z17, .int z18, .ref z19]))]) (cx := []) (wr := [(za, .inr (13, [.int 0, .ref z1, .int (nI z2), .int (nI z3), .int z4, .int z5, .ref z6, .ref z7, .ref z8, .ref z9, .int (nI z10), .ref z11, .ref z12, .ref z13, .ref z14, .ref z15, .int (nI z16), .ref z17, .int z18, .ref z19]))]) (rx := []) (pl := va_pl L M) (pl1 := va_pl L M) hP hD [] [0] rfl rfl (by decide) (by decide) hk1 hFc hP1 hD1
    have hP : va_P D vwCl ([(za, .inr (13, [.int 0, .ref z1, .int (nI z2), .int (nI z3), .int z4, .int z5, .ref z6, .ref z7, .ref z8, .ref z9, .int (nI z10), .ref z11, .ref z12, .ref z13, .ref z14, .ref z15, .int (nI z16), .ref z17, .int z18, .ref z19]))] ++ va_pl L M) H_15 := hP
    have hD : va_D A ([(za, .inr (13, [.int 0, .ref z1, .int (nI z2), .int (nI z3), .int z4, .int z5, .ref z6, .ref z7, .ref z8, .ref z9, .int (nI z10), .ref z11, .ref z12, .ref z13, .ref z14, .ref z15, .int (nI z16), .ref z17, .int z18, .ref z19]))] ++ va_pl L M) := hD
    rcases hp_18 with ⟨rfl, c_19, c_20⟩ | rfl
    · have hz := rfl (a := 0)
      refine lv_if_ne (tgt := 40) hx hb dX13_tear_31 (by decide) (fun _ => ?_) (fun c_21 => absurd c_21 (by decide))
      refine lv_aload_n hx hb dX13_tear_40 rfl (lv_at hl 0 rfl) ?_
      obtain ⟨v22, hv22, hc22⟩ : ∃ v : Nat, fs14[2]? = some (.ref v : Value) ∧ isk K L v 37 1000 := hl14 2 (by decide)
      refine pg_getN (D := D) (ci := 12) (v := .ref v22) (C := RX12) (T := TX12) (N := 51) hx hb hg inG12 hown hK hP hb_13.1 hM14 rfl 2 (by decide) (hN.use (Cond.fieldLinkNest RX13 83 RX12 "places" "[I" RX13) 11 rfl rfl) (fun _ h9 => h9) hv22 dX13_tear_41 ?_
      refine lv_iload_n hx hb dX13_tear_44 rfl (lv_at hl 3 rfl) ?_
      obtain ⟨f23, hM23, hf23⟩ := hW.open_37 hc22
      have hi_24 : vp_in k2 1000 := (inb k2 1000 (by omega) c_19 c_20)
      refine pg_iald hx hb hK hP hc22.1 0 hM23 rfl hi_24 dX13_tear_45 ?_
      have hp_25 := hf23 _ (vp_lt hi_24)
      rcases hp_25 with ec_28 | ⟨c_26, hc_27, ec_28⟩
      · rw [ec_28]
        refine lv_iconst (v := (-1)) hx hb dX13_tear_46 (by decide) ?_
        refine lv_icmp_ne (tgt := 57) hx hb dX13_tear_47 (by decide) (fun c_29 => absurd c_29 (by decide)) (fun _ => ?_)
        refine lv_aload_n hx hb dX13_tear_50 rfl (lv_at hl 1 rfl) ?_
        refine lv_bipush (v := 10) hx hb dX13_tear_51 (by decide) ?_
        have hPc := hP.sub (ws' := [(za, .inr (13, [.int 0, .ref z1, .int (nI z2), .int (nI z3), .int z4, .int z5, .ref z6, .ref z7, .ref z8, .ref z9, .int (nI z10), .ref z11, .ref z12, .ref z13, .ref z14, .ref z15, .int (nI z16), .ref z17, .int z18, .ref z19]))]) [0] rfl
        have hDc := hD.sub (ws' := [(za, .inr (13, [.int 0, .ref z1, .int (nI z2), .int (nI z3), .int z4, .int z5, .ref z6, .ref z7, .ref z8, .ref z9, .int (nI z10), .ref z11, .ref z12, .ref z13, .ref z14, .ref z15, .int (nI z16), .ref z17, .int z18, .ref z19]))]) [0] (by decide) rfl
        have hKc := hK.sub (tys' := []) [] rfl
        have hFc := va_free (wc := [(za, .inr (13, [.int 0, .ref z1, .int (nI z2), .int (nI z3), .int z4, .int z5, .ref z6, .ref z7, .ref z8, .ref z9, .int (nI z10), .ref z11, .ref z12, .ref z13, .ref z14, .ref z15, .int (nI z16), .ref z17, .int z18, .ref z19]))]) hD hS hA [0] rfl
        refine va_calli (va_runV (As := [.int 10]) (rest := []) ⟨hx, hb, hml, hown, hg⟩ (m_refused l D H_15.size za 0 z1 (nI z2) (nI z3) z4 z5 z6 z7 z8 z9 (nI z10) z11 z12 z13 z14 z15 (nI z16) z17 z18 z19 10) (cwV 1 hg (gV wd_725 wd_726 wd_727 wd_717 wd_728) rfl rfl rfl (by decide +kernel) ⟨(Nat.le_trans (Nat.le_of_ble_eq_true rfl) hRf), (Nat.le_trans (Nat.le_of_ble_eq_true rfl) hRl)⟩) ⟨Pr.blind, va_recv hK hP (ci := 13) (q0 := 0) rfl rfl, fun U hU hW => ⟨rfl, Pr.at hPc hKc hDc hN hU hW⟩⟩ rfl rfl hl.1 rfl (lv_room (Nat.le_of_ble_eq_true rfl)) dX13_tear_53 ⟨(Nat.le_trans (Nat.le_of_ble_eq_true rfl) hRc), (Nat.le_trans (Nat.le_of_ble_eq_true rfl) hRs)⟩) hS (fun q _ h => hFc q h) hFc (fun r_31 M_32 t H_30 locs ht hvm hw hB hz1 hk1 hS => ?_)
        have hp_33 := hw
        obtain ⟨hP1, hK1, hD1⟩ := hB
        rw [ht] at hP1
        obtain ⟨hP, hD⟩ := va_joinQ (X := [(za, .inr (13, [.int 0, .ref z1, .int (nI z2), .int (nI z3), .int z4, .int z5, .ref z6, .ref z7, .ref z8, .ref z9, .int (nI z10), .ref z11, .ref z12, .ref z13, .ref z14, .ref z15, .int (nI z16), .ref z17, .int z18, .ref z19]))]) (cx := [(za, .inr (13, [.int 0, .ref z1, .int (nI z2), .int (nI z3), .int z4, .int z5, .ref z6, .ref z7, .ref z8, .ref z9, .int (nI z10), .ref z11, .ref z12, .ref z13, .ref z14, .ref z15, .int (nI z16), .ref z17, .int z18, .ref z19]))]) (wr := []) (w1 := [(za, .inr (13, [.int 0, .ref z1, .int (nI z2), .int (nI z3), .int 10, .int (-1), .ref z6, .ref z7, .ref z8, .ref z9, .int (nI z10), .ref z11, .ref z12, .ref z13, .ref z14, .ref z15, .int (nI z16), .ref z17, .int z18, .ref z19]))]) (pl := va_pl L M) hP hD [0] [] rfl rfl (by decide) (by decide) hk1 hFc hP1 hD1
        have hP : va_P D vwCl ([(za, .inr (13, [.int 0, .ref z1, .int (nI z2), .int (nI z3), .int 10, .int (-1), .ref z6, .ref z7, .ref z8, .ref z9, .int (nI z10), .ref z11, .ref z12, .ref z13, .ref z14, .ref z15, .int (nI z16), .ref z17, .int z18, .ref z19]))] ++ va_pl L M) H_30 := hP
        have hD : va_D A ([(za, .inr (13, [.int 0, .ref z1, .int (nI z2), .int (nI z3), .int 10, .int (-1), .ref z6, .ref z7, .ref z8, .ref z9, .int (nI z10), .ref z11, .ref z12, .ref z13, .ref z14, .ref z15, .int (nI z16), .ref z17, .int z18, .ref z19]))] ++ va_pl L M) := hD
        have hq := Eq.symm hp_33
        subst hq
        rw [hQ]
        exact W.iret (v := (-1)) hx hb hr (fun t ht hW9 => ⟨⟨(-1), M, rfl, ⟨hW, hF, hG, trivial⟩, ⟨10, (-1), by rw [ht]; exact hP, hD⟩⟩, hS.F ht⟩) hS.2.2 dX13_tear_56
      · rw [ec_28]
        refine lv_iconst (v := (-1)) hx hb dX13_tear_46 (by decide) ?_
        refine lv_icmp_ne (tgt := 57) hx hb dX13_tear_47 (by decide) (fun _ => ?_) (fun c_34 => absurd c_34 (nI_ne_m1 (by omega)))
        refine lv_aload_n hx hb dX13_tear_57 rfl (lv_at hl 0 rfl) ?_
        obtain ⟨v35, hv35, hc35⟩ : ∃ v : Nat, fs14[3]? = some (.ref v : Value) ∧ isk K L v 35 1000 := hl14 3 (by decide)
        refine pg_getN (D := D) (ci := 12) (v := .ref v35) (C := RX12) (T := TX12) (N := 51) hx hb hg inG12 hown hK hP hb_13.1 hM14 rfl 3 (by decide) (hN.use (Cond.fieldLinkNest RX13 157 RX12 "told" "[I" RX13) 12 rfl rfl) (fun _ h9 => h9) hv35 dX13_tear_58 ?_
        refine lv_iload_n hx hb dX13_tear_61 rfl (lv_at hl 3 rfl) ?_
        obtain ⟨f36, hM36, hf36⟩ := hW.open_35 hc35
        have hi_37 : vp_in k2 1000 := (inb k2 1000 (by omega) c_19 c_20)
        refine pg_iald hx hb hK hP hc35.1 0 hM36 rfl hi_37 dX13_tear_62 ?_
        have hp_38 := hf36 _ (vp_lt hi_37)
        obtain ⟨c_39, hc_40, ec_41⟩ := hp_38
        rw [ec_41]
        refine lv_istore (lv' := [(4, .int (nI c_39)), (3, .ref b11), (0, .ref za), (1, .int k1), (2, .int k2)]) hx hb dX13_tear_63 hl (by decide) rfl (fun ls hl => ?_)
        refine lv_aload_n hx hb dX13_tear_65 rfl (lv_at hl 1 rfl) ?_
        refine pg_getN (D := D) (ci := 12) (v := .ref v22) (C := RX12) (T := TX12) (N := 51) hx hb hg inG12 hown hK hP hb_13.1 hM14 rfl 2 (by decide) (hN.use (Cond.fieldLinkNest RX13 83 RX12 "places" "[I" RX13) 11 rfl rfl) (fun _ h9 => h9) hv22 dX13_tear_66 ?_
        refine lv_iload_n hx hb dX13_tear_69 rfl (lv_at hl 4 rfl) ?_
        refine lv_iconst (v := (-1)) hx hb dX13_tear_70 (by decide) ?_
        obtain ⟨j_42, hj_43, rfl⟩ := i32nat 1000 (by decide) c_19 c_20
        refine pg_iast hx hb hK hP hD hS hc22.1 0 hM23 rfl (inbN j_42 1000 (by omega) (by omega)) dX13_tear_71 (fun H_44 locs hP hD hS => ?_)
        obtain ⟨M_45, eM_45⟩ : ∃ M1 : Hp, M1 = va_up M v22 (.inl (cy 14, 1000, .inl (upd f23 ((nI j_42) : Int32).toNatClampNeg (-1)))) := ⟨_, rfl⟩
        have hP : va_P D vwCl ([(za, .inr (13, [.int 0, .ref z1, .int (nI z2), .int (nI z3), .int z4, .int z5, .ref z6, .ref z7, .ref z8, .ref z9, .int (nI z10), .ref z11, .ref z12, .ref z13, .ref z14, .ref z15, .int (nI z16), .ref z17, .int z18, .ref z19]))] ++ va_pl L M_45) H_44 := by rw [eM_45]; exact hP
        have hD : va_D A ([(za, .inr (13, [.int 0, .ref z1, .int (nI z2), .int (nI z3), .int z4, .int z5, .ref z6, .ref z7, .ref z8, .ref z9, .int (nI z10), .ref z11, .ref z12, .ref z13, .ref z14, .ref z15, .int (nI z16), .ref z17, .int z18, .ref z19]))] ++ va_pl L M_45) := by rw [eM_45]; exact hD
        have hW : WOM cy K L M_45 := by rw [eM_45]; exact hW.up_37 hc22 ⟨_, rfl, (updP (P := fun z => (z = -1 ∨ ∃ c : Nat, c < 7 ∧ z = nI c)) hf23 (Or.inl rfl))⟩
        have hF : fr K L [12, 35, 37] M M_45 := by rw [eM_45]; exact hF.up hc22 (by decide)
        have hG : fG K L [16] M M_45 := by rw [eM_45]; exact hG.arr hc22 (by decide)
        have hM_46 : M_45 v22 = .inl (cy 14, 1000, .inl (upd f23 ((nI j_42) : Int32).toNatClampNeg (-1))) := by rw [eM_45]; exact va_up_self _ _ _
        have hM_47 : M_45 z1 = .inl (cy 23, 8, .inr (.inr (.inr (.inr (f9))))) := by rw [eM_45, va_up_ne _ _ (i1.neT hc22 (by decide))]; exact hM9
        have hM_48 : M_45 b11 = .inr (12, fs14) := by rw [eM_45, va_up_ne _ _ (hb_13.neT hc22 (by decide))]; exact hM14
        have hM_49 : M_45 v35 = .inl (cy 14, 1000, .inl (f36)) := by rw [eM_45, va_up_ne _ _ (hc35.neT hc22 (by decide))]; exact hM36
        have hf_51 : ∀ j, j < 1000 → ((upd f23 ((nI j_42) : Int32).toNatClampNeg (-1)) j = -1 ∨ ∃ c : Nat, c < 7 ∧ (upd f23 ((nI j_42) : Int32).toNatClampNeg (-1)) j = nI c) := (updP (P := fun z => (z = -1 ∨ ∃ c : Nat, c < 7 ∧ z = nI c)) hf23 (Or.inl rfl))
        obtain ⟨f_50, ef_50⟩ : ∃ f : Nat → Int32, f = upd f23 ((nI j_42) : Int32).toNatClampNeg (-1) := ⟨_, rfl⟩
        rw [← ef_50] at hM_46 hf_51
        clear ef_50
        refine lv_aload_n hx hb dX13_tear_72 rfl (lv_at hl 1 rfl) ?_
        refine pg_getN (D := D) (ci := 12) (v := .ref v35) (C := RX12) (T := TX12) (N := 51) hx hb hg inG12 hown hK hP hb_13.1 hM_48 rfl 3 (by decide) (hN.use (Cond.fieldLinkNest RX13 157 RX12 "told" "[I" RX13) 12 rfl rfl) (fun _ h9 => h9) hv35 dX13_tear_73 ?_
        refine lv_iload_n hx hb dX13_tear_76 rfl (lv_at hl 4 rfl) ?_
        refine lv_iconst (v := 0) hx hb dX13_tear_77 (by decide) ?_
        refine pg_iast hx hb hK hP hD hS hc35.1 0 hM_49 rfl (inbN j_42 1000 (by omega) (by omega)) dX13_tear_78 (fun H_52 locs hP hD hS => ?_)
        obtain ⟨M_53, eM_53⟩ : ∃ M1 : Hp, M1 = va_up M_45 v35 (.inl (cy 14, 1000, .inl (upd f36 ((nI j_42) : Int32).toNatClampNeg 0))) := ⟨_, rfl⟩
        have hP : va_P D vwCl ([(za, .inr (13, [.int 0, .ref z1, .int (nI z2), .int (nI z3), .int z4, .int z5, .ref z6, .ref z7, .ref z8, .ref z9, .int (nI z10), .ref z11, .ref z12, .ref z13, .ref z14, .ref z15, .int (nI z16), .ref z17, .int z18, .ref z19]))] ++ va_pl L M_53) H_52 := by rw [eM_53]; exact hP
        have hD : va_D A ([(za, .inr (13, [.int 0, .ref z1, .int (nI z2), .int (nI z3), .int z4, .int z5, .ref z6, .ref z7, .ref z8, .ref z9, .int (nI z10), .ref z11, .ref z12, .ref z13, .ref z14, .ref z15, .int (nI z16), .ref z17, .int z18, .ref z19]))] ++ va_pl L M_53) := by rw [eM_53]; exact hD
        have hW : WOM cy K L M_53 := by rw [eM_53]; exact hW.up_35 hc35 ⟨_, rfl, (updP (P := fun z => ∃ c : Nat, c < 7 ∧ z = nI c) hf36 ⟨0, by omega, rfl⟩)⟩
        have hF : fr K L [12, 35, 37] M M_53 := by rw [eM_53]; exact hF.up hc35 (by decide)
        have hG : fG K L [16] M M_53 := by rw [eM_53]; exact hG.arr hc35 (by decide)
        have hM_54 : M_53 v35 = .inl (cy 14, 1000, .inl (upd f36 ((nI j_42) : Int32).toNatClampNeg 0)) := by rw [eM_53]; exact va_up_self _ _ _
        have hM_55 : M_53 v22 = .inl (cy 14, 1000, .inl (f_50)) := by rw [eM_53, va_up_ne _ _ (hc22.neT hc35 (by decide))]; exact hM_46
        have hM_56 : M_53 z1 = .inl (cy 23, 8, .inr (.inr (.inr (.inr (f9))))) := by rw [eM_53, va_up_ne _ _ (i1.neT hc35 (by decide))]; exact hM_47
        have hM_57 : M_53 b11 = .inr (12, fs14) := by rw [eM_53, va_up_ne _ _ (hb_13.neT hc35 (by decide))]; exact hM_48
        have hf_59 : ∀ j, j < 1000 → ∃ c : Nat, c < 7 ∧ (upd f36 ((nI j_42) : Int32).toNatClampNeg 0) j = nI c := (updP (P := fun z => ∃ c : Nat, c < 7 ∧ z = nI c) hf36 ⟨0, by omega, rfl⟩)
        obtain ⟨f_58, ef_58⟩ : ∃ f : Nat → Int32, f = upd f36 ((nI j_42) : Int32).toNatClampNeg 0 := ⟨_, rfl⟩
        rw [← ef_58] at hM_54 hf_59
        clear ef_58
        refine lv_aload_n hx hb dX13_tear_79 rfl (lv_at hl 1 rfl) ?_
        refine lv_iconst (v := 0) hx hb dX13_tear_80 (by decide) ?_
        refine pg_putN (D := D) (ci := 12) (v := .int 0) (ty := .int) (C := RX12) (T := TX12) (N := 51) hx hb hg inG12 tyX12 tyX12_ok nmX12 hown hK hP hD hS hb_13.1 hM_57 rfl 16 (by decide) (hN.use (Cond.fieldLinkNest RX13 161 RX12 "undone" "I" RX13) 25 rfl rfl) (fun _ h9 => h9) rfl (by decide +kernel) rfl rfl (by rw [hn14]; decide) dX13_tear_81 (fun H_60 locs hP hD hS => ?_)
        have hs_63 : (fs14.set 16 (.int 0))[16]? = some (.int (nI 0)) := List.getElem?_set_self (by rw [hn14]; decide)
        have hk_62 := fld12_set (k := 16) (w := .int 0) hl14 (show fld12 K L 16 (fs14.set 16 (.int 0)) from ⟨0, hs_63, by omega⟩)
        have hn_64 : (fs14.set 16 (.int 0)).length = 51 := by rw [List.length_set]; exact hn14
        have hv_65 : (fs14.set 16 (.int 0))[2]? = some (.ref v22) := by rw [List.getElem?_set_ne (by decide)]; exact hv22
        have hv_66 : (fs14.set 16 (.int 0))[3]? = some (.ref v35) := by rw [List.getElem?_set_ne (by decide)]; exact hv35
        have hb_67 : 0 ≤ 60 := by omega
        obtain ⟨M_68, eM_68⟩ : ∃ M1 : Hp, M1 = va_up M_53 b11 (.inr (12, fs14.set 16 (.int 0))) := ⟨_, rfl⟩
        have hP : va_P D vwCl ([(za, .inr (13, [.int 0, .ref z1, .int (nI z2), .int (nI z3), .int z4, .int z5, .ref z6, .ref z7, .ref z8, .ref z9, .int (nI z10), .ref z11, .ref z12, .ref z13, .ref z14, .ref z15, .int (nI z16), .ref z17, .int z18, .ref z19]))] ++ va_pl L M_68) H_60 := by rw [eM_68]; exact hP
        have hD : va_D A ([(za, .inr (13, [.int 0, .ref z1, .int (nI z2), .int (nI z3), .int z4, .int z5, .ref z6, .ref z7, .ref z8, .ref z9, .int (nI z10), .ref z11, .ref z12, .ref z13, .ref z14, .ref z15, .int (nI z16), .ref z17, .int z18, .ref z19]))] ++ va_pl L M_68) := by rw [eM_68]; exact hD
        have hW : WOM cy K L M_68 := by rw [eM_68]; exact hW.up_12 hb_13 ⟨_, rfl, hn_64, hk_62⟩
        have hF : fr K L [12, 35, 37] M M_68 := by rw [eM_68]; exact hF.up hb_13 (by decide)
        have hG : fG K L [16] M M_68 := by rw [eM_68]; exact hG.up hM_57 (by decide)
        have hM_69 : M_68 b11 = .inr (12, fs14.set 16 (.int 0)) := by rw [eM_68]; exact va_up_self _ _ _
        have hM_70 : M_68 v35 = .inl (cy 14, 1000, .inl (f_58)) := by rw [eM_68, va_up_ne _ _ (hc35.neT hb_13 (by decide))]; exact hM_54
        have hM_71 : M_68 v22 = .inl (cy 14, 1000, .inl (f_50)) := by rw [eM_68, va_up_ne _ _ (hc22.neT hb_13 (by decide))]; exact hM_55
        have hM_72 : M_68 z1 = .inl (cy 23, 8, .inr (.inr (.inr (.inr (f9))))) := by rw [eM_68, va_up_ne _ _ (i1.neT hb_13 (by decide))]; exact hM_56
        refine lv_aload_n hx hb dX13_tear_84 rfl (lv_at hl 2 rfl) ?_
        refine lv_iload hx hb dX13_tear_85 (lv_at hl 0 rfl) ?_
        have hPc := hP.sub (ws' := [(za, .inr (13, [.int 0, .ref z1, .int (nI z2), .int (nI z3), .int z4, .int z5, .ref z6, .ref z7, .ref z8, .ref z9, .int (nI z10), .ref z11, .ref z12, .ref z13, .ref z14, .ref z15, .int (nI z16), .ref z17, .int z18, .ref z19]))]) [0] rfl
        have hDc := hD.sub (ws' := [(za, .inr (13, [.int 0, .ref z1, .int (nI z2), .int (nI z3), .int z4, .int z5, .ref z6, .ref z7, .ref z8, .ref z9, .int (nI z10), .ref z11, .ref z12, .ref z13, .ref z14, .ref z15, .int (nI z16), .ref z17, .int z18, .ref z19]))]) [0] (by decide) rfl
        have hKc := hK.sub (tys' := []) [] rfl
        have hFc := va_free (wc := [(za, .inr (13, [.int 0, .ref z1, .int (nI z2), .int (nI z3), .int z4, .int z5, .ref z6, .ref z7, .ref z8, .ref z9, .int (nI z10), .ref z11, .ref z12, .ref z13, .ref z14, .ref z15, .int (nI z16), .ref z17, .int z18, .ref z19]))]) hD hS hA [0] rfl
        refine va_calli (va_runV (As := [.int (nI c_39)]) (rest := []) ⟨hx, hb, hml, hown, hg⟩ (m_done l D H_60.size za 0 z1 (nI z2) (nI z3) z4 z5 z6 z7 z8 z9 (nI z10) z11 z12 z13 z14 z15 (nI z16) z17 z18 z19 (nI c_39)) (cwV 1 hg (gV wd_730 wd_731 wd_732 wd_717 wd_733) rfl rfl rfl (by decide +kernel) ⟨(Nat.le_trans (Nat.le_of_ble_eq_true rfl) hRf), (Nat.le_trans (Nat.le_of_ble_eq_true rfl) hRl)⟩) ⟨Pr.blind, va_recv hK hP (ci := 13) (q0 := 0) rfl rfl, fun U hU hW => ⟨rfl, Pr.at hPc hKc hDc hN hU hW⟩⟩ rfl rfl hl.1 rfl (lv_room (Nat.le_of_ble_eq_true rfl)) dX13_tear_87 ⟨(Nat.le_trans (Nat.le_of_ble_eq_true rfl) hRc), (Nat.le_trans (Nat.le_of_ble_eq_true rfl) hRs)⟩) hS (fun q _ h => hFc q h) hFc (fun r_74 M_75 t H_73 locs ht hvm hw hB hz1 hk1 hS => ?_)
        have hp_76 := hw
        obtain ⟨hP1, hK1, hD1⟩ := hB
        rw [ht] at hP1
        obtain ⟨hP, hD⟩ := va_joinQ (X := [(za, .inr (13, [.int 0, .ref z1, .int (nI z2), .int (nI z3), .int z4, .int z5, .ref z6, .ref z7, .ref z8, .ref z9, .int (nI z10), .ref z11, .ref z12, .ref z13, .ref z14, .ref z15, .int (nI z16), .ref z17, .int z18, .ref z19]))]) (cx := [(za, .inr (13, [.int 0, .ref z1, .int (nI z2), .int (nI z3), .int z4, .int z5, .ref z6, .ref z7, .ref z8, .ref z9, .int (nI z10), .ref z11, .ref z12, .ref z13, .ref z14, .ref z15, .int (nI z16), .ref z17, .int z18, .ref z19]))]) (wr := []) (w1 := [(za, .inr (13, [.int 0, .ref z1, .int (nI z2), .int (nI z3), .int 0, .int (-1), .ref z6, .ref z7, .ref z8, .ref z9, .int (nI z10), .ref z11, .ref z12, .ref z13, .ref z14, .ref z15, .int (nI z16), .ref z17, .int z18, .ref z19]))]) (pl := va_pl L M_68) hP hD [0] [] rfl rfl (by decide) (by decide) hk1 hFc hP1 hD1
        have hP : va_P D vwCl ([(za, .inr (13, [.int 0, .ref z1, .int (nI z2), .int (nI z3), .int 0, .int (-1), .ref z6, .ref z7, .ref z8, .ref z9, .int (nI z10), .ref z11, .ref z12, .ref z13, .ref z14, .ref z15, .int (nI z16), .ref z17, .int z18, .ref z19]))] ++ va_pl L M_68) H_73 := hP
        have hD : va_D A ([(za, .inr (13, [.int 0, .ref z1, .int (nI z2), .int (nI z3), .int 0, .int (-1), .ref z6, .ref z7, .ref z8, .ref z9, .int (nI z10), .ref z11, .ref z12, .ref z13, .ref z14, .ref z15, .int (nI z16), .ref z17, .int z18, .ref z19]))] ++ va_pl L M_68) := hD
        have hq := Eq.symm hp_76
        subst hq
        rw [hQ]
        exact W.iret (v := (nI c_39)) hx hb hr (fun t ht hW9 => ⟨⟨(nI c_39), M_68, rfl, ⟨hW, hF, hG, trivial⟩, ⟨0, (-1), by rw [ht]; exact hP, hD⟩⟩, hS.F ht⟩) hS.2.2 dX13_tear_90
    · have hz := rfl (a := 0)
      refine lv_if_ne (tgt := 40) hx hb dX13_tear_31 (by decide) (fun c_77 => absurd c_77 (by decide)) (fun _ => ?_)
      refine lv_aload_n hx hb dX13_tear_34 rfl (lv_at hl 1 rfl) ?_
      refine lv_iconst (v := 3) hx hb dX13_tear_35 (by decide) ?_
      have hPc := hP.sub (ws' := [(za, .inr (13, [.int 0, .ref z1, .int (nI z2), .int (nI z3), .int z4, .int z5, .ref z6, .ref z7, .ref z8, .ref z9, .int (nI z10), .ref z11, .ref z12, .ref z13, .ref z14, .ref z15, .int (nI z16), .ref z17, .int z18, .ref z19]))]) [0] rfl
      have hDc := hD.sub (ws' := [(za, .inr (13, [.int 0, .ref z1, .int (nI z2), .int (nI z3), .int z4, .int z5, .ref z6, .ref z7, .ref z8, .ref z9, .int (nI z10), .ref z11, .ref z12, .ref z13, .ref z14, .ref z15, .int (nI z16), .ref z17, .int z18, .ref z19]))]) [0] (by decide) rfl
      have hKc := hK.sub (tys' := []) [] rfl
      have hFc := va_free (wc := [(za, .inr (13, [.int 0, .ref z1, .int (nI z2), .int (nI z3), .int z4, .int z5, .ref z6, .ref z7, .ref z8, .ref z9, .int (nI z10), .ref z11, .ref z12, .ref z13, .ref z14, .ref z15, .int (nI z16), .ref z17, .int z18, .ref z19]))]) hD hS hA [0] rfl
      refine va_calli (va_runV (As := [.int 3]) (rest := []) ⟨hx, hb, hml, hown, hg⟩ (m_refused l D H_15.size za 0 z1 (nI z2) (nI z3) z4 z5 z6 z7 z8 z9 (nI z10) z11 z12 z13 z14 z15 (nI z16) z17 z18 z19 3) (cwV 1 hg (gV wd_725 wd_726 wd_727 wd_717 wd_728) rfl rfl rfl (by decide +kernel) ⟨(Nat.le_trans (Nat.le_of_ble_eq_true rfl) hRf), (Nat.le_trans (Nat.le_of_ble_eq_true rfl) hRl)⟩) ⟨Pr.blind, va_recv hK hP (ci := 13) (q0 := 0) rfl rfl, fun U hU hW => ⟨rfl, Pr.at hPc hKc hDc hN hU hW⟩⟩ rfl rfl hl.1 rfl (lv_room (Nat.le_of_ble_eq_true rfl)) dX13_tear_36 ⟨(Nat.le_trans (Nat.le_of_ble_eq_true rfl) hRc), (Nat.le_trans (Nat.le_of_ble_eq_true rfl) hRs)⟩) hS (fun q _ h => hFc q h) hFc (fun r_79 M_80 t H_78 locs ht hvm hw hB hz1 hk1 hS => ?_)
      have hp_81 := hw
      obtain ⟨hP1, hK1, hD1⟩ := hB
      rw [ht] at hP1
      obtain ⟨hP, hD⟩ := va_joinQ (X := [(za, .inr (13, [.int 0, .ref z1, .int (nI z2), .int (nI z3), .int z4, .int z5, .ref z6, .ref z7, .ref z8, .ref z9, .int (nI z10), .ref z11, .ref z12, .ref z13, .ref z14, .ref z15, .int (nI z16), .ref z17, .int z18, .ref z19]))]) (cx := [(za, .inr (13, [.int 0, .ref z1, .int (nI z2), .int (nI z3), .int z4, .int z5, .ref z6, .ref z7, .ref z8, .ref z9, .int (nI z10), .ref z11, .ref z12, .ref z13, .ref z14, .ref z15, .int (nI z16), .ref z17, .int z18, .ref z19]))]) (wr := []) (w1 := [(za, .inr (13, [.int 0, .ref z1, .int (nI z2), .int (nI z3), .int 3, .int (-1), .ref z6, .ref z7, .ref z8, .ref z9, .int (nI z10), .ref z11, .ref z12, .ref z13, .ref z14, .ref z15, .int (nI z16), .ref z17, .int z18, .ref z19]))]) (pl := va_pl L M) hP hD [0] [] rfl rfl (by decide) (by decide) hk1 hFc hP1 hD1
      have hP : va_P D vwCl ([(za, .inr (13, [.int 0, .ref z1, .int (nI z2), .int (nI z3), .int 3, .int (-1), .ref z6, .ref z7, .ref z8, .ref z9, .int (nI z10), .ref z11, .ref z12, .ref z13, .ref z14, .ref z15, .int (nI z16), .ref z17, .int z18, .ref z19]))] ++ va_pl L M) H_78 := hP
      have hD : va_D A ([(za, .inr (13, [.int 0, .ref z1, .int (nI z2), .int (nI z3), .int 3, .int (-1), .ref z6, .ref z7, .ref z8, .ref z9, .int (nI z10), .ref z11, .ref z12, .ref z13, .ref z14, .ref z15, .int (nI z16), .ref z17, .int z18, .ref z19]))] ++ va_pl L M) := hD
      have hq := Eq.symm hp_81
      subst hq
      rw [hQ]
      exact W.iret (v := (-1)) hx hb hr (fun t ht hW9 => ⟨⟨(-1), M, rfl, ⟨hW, hF, hG, trivial⟩, ⟨3, (-1), by rw [ht]; exact hP, hD⟩⟩, hS.F ht⟩) hS.2.2 dX13_tear_39
  · have hz := rfl (a := 0)
    refine lv_if_ne (tgt := 19) hx hb dX13_tear_10 (by decide) (fun c_82 => absurd c_82 (by decide)) (fun _ => ?_)
    refine lv_aload_n hx hb dX13_tear_13 rfl (lv_at hl 0 rfl) ?_
    refine lv_iconst (v := 1) hx hb dX13_tear_14 (by decide) ?_
    have hPc := hP.sub (ws' := [(za, .inr (13, [.int 0, .ref z1, .int (nI z2), .int (nI z3), .int z4, .int z5, .ref z6, .ref z7, .ref z8, .ref z9, .int (nI z10), .ref z11, .ref z12, .ref z13, .ref z14, .ref z15, .int (nI z16), .ref z17, .int z18, .ref z19]))]) [0] rfl
    have hDc := hD.sub (ws' := [(za, .inr (13, [.int 0, .ref z1, .int (nI z2), .int (nI z3), .int z4, .int z5, .ref z6, .ref z7, .ref z8, .ref z9, .int (nI z10), .ref z11, .ref z12, .ref z13, .ref z14, .ref z15, .int (nI z16), .ref z17, .int z18, .ref z19]))]) [0] (by decide) rfl
    have hKc := hK.sub (tys' := []) [] rfl
    have hFc := va_free (wc := [(za, .inr (13, [.int 0, .ref z1, .int (nI z2), .int (nI z3), .int z4, .int z5, .ref z6, .ref z7, .ref z8, .ref z9, .int (nI z10), .ref z11, .ref z12, .ref z13, .ref z14, .ref z15, .int (nI z16), .ref z17, .int z18, .ref z19]))]) hD hS hA [0] rfl
    refine va_calli (va_runV (As := [.int 1]) (rest := []) ⟨hx, hb, hml, hown, hg⟩ (m_refused l D H_2.size za 0 z1 (nI z2) (nI z3) z4 z5 z6 z7 z8 z9 (nI z10) z11 z12 z13 z14 z15 (nI z16) z17 z18 z19 1) (cwV 1 hg (gV wd_725 wd_726 wd_727 wd_717 wd_728) rfl rfl rfl (by decide +kernel) ⟨(Nat.le_trans (Nat.le_of_ble_eq_true rfl) hRf), (Nat.le_trans (Nat.le_of_ble_eq_true rfl) hRl)⟩) ⟨Pr.blind, va_recv hK hP (ci := 13) (q0 := 0) rfl rfl, fun U hU hW => ⟨rfl, Pr.at hPc hKc hDc hN hU hW⟩⟩ rfl rfl hl.1 rfl (lv_room (Nat.le_of_ble_eq_true rfl)) dX13_tear_15 ⟨(Nat.le_trans (Nat.le_of_ble_eq_true rfl) hRc), (Nat.le_trans (Nat.le_of_ble_eq_true rfl) hRs)⟩) hS (fun q _ h => hFc q h) hFc (fun r_84 M_85 t H_83 locs ht hvm hw hB hz1 hk1 hS => ?_)
    have hp_86 := hw
    obtain ⟨hP1, hK1, hD1⟩ := hB
    rw [ht] at hP1
    obtain ⟨hP, hD⟩ := va_joinQ (X := [(za, .inr (13, [.int 0, .ref z1, .int (nI z2), .int (nI z3), .int z4, .int z5, .ref z6, .ref z7, .ref z8, .ref z9, .int (nI z10), .ref z11, .ref z12, .ref z13, .ref z14, .ref z15, .int (nI z16), .ref z17, .int z18, .ref z19]))]) (cx := [(za, .inr (13, [.int 0, .ref z1, .int (nI z2), .int (nI z3), .int z4, .int z5, .ref z6, .ref z7, .ref z8, .ref z9, .int (nI z10), .ref z11, .ref z12, .ref z13, .ref z14, .ref z15, .int (nI z16), .ref z17, .int z18, .ref z19]))]) (wr := []) (w1 := [(za, .inr (13, [.int 0, .ref z1, .int (nI z2), .int (nI z3), .int 1, .int (-1), .ref z6, .ref z7, .ref z8, .ref z9, .int (nI z10), .ref z11, .ref z12, .ref z13, .ref z14, .ref z15, .int (nI z16), .ref z17, .int z18, .ref z19]))]) (pl := va_pl L M) hP hD [0] [] rfl rfl (by decide) (by decide) hk1 hFc hP1 hD1
    have hP : va_P D vwCl ([(za, .inr (13, [.int 0, .ref z1, .int (nI z2), .int (nI z3), .int 1, .int (-1), .ref z6, .ref z7, .ref z8, .ref z9, .int (nI z10), .ref z11, .ref z12, .ref z13, .ref z14, .ref z15, .int (nI z16), .ref z17, .int z18, .ref z19]))] ++ va_pl L M) H_83 := hP
    have hD : va_D A ([(za, .inr (13, [.int 0, .ref z1, .int (nI z2), .int (nI z3), .int 1, .int (-1), .ref z6, .ref z7, .ref z8, .ref z9, .int (nI z10), .ref z11, .ref z12, .ref z13, .ref z14, .ref z15, .int (nI z16), .ref z17, .int z18, .ref z19]))] ++ va_pl L M) := hD
    have hq := Eq.symm hp_86
    subst hq
    rw [hQ]
    exact W.iret (v := (-1)) hx hb hr (fun t ht hW9 => ⟨⟨(-1), M, rfl, ⟨hW, hF, hG, trivial⟩, ⟨1, (-1), by rw [ht]; exact hP, hD⟩⟩, hS.F ht⟩) hS.2.2 dX13_tear_18
