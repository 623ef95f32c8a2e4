theorem dX13_leaf_0 : decode cX13_leaf 0 = .ok (.aload_n 0, 1) := by decide +kernel
theorem dX13_leaf_1 : decode cX13_leaf 1 = .ok (.iconst 0, 1) := by decide +kernel
theorem dX13_leaf_2 : decode cX13_leaf 2 = .ok (.putfield 55, 3) := by decide +kernel
theorem dX13_leaf_5 : decode cX13_leaf 5 = .ok (.aload_n 0, 1) := by decide +kernel
theorem dX13_leaf_6 : decode cX13_leaf 6 = .ok (.iload_n 1, 1) := by decide +kernel
theorem dX13_leaf_7 : decode cX13_leaf 7 = .ok (.invokevirtual 64, 3) := by decide +kernel
theorem dX13_leaf_10 : decode cX13_leaf 10 = .ok (.ifCond .ne 9, 3) := by decide +kernel
theorem dX13_leaf_13 : decode cX13_leaf 13 = .ok (.aload_n 0, 1) := by decide +kernel
theorem dX13_leaf_14 : decode cX13_leaf 14 = .ok (.iconst 1, 1) := by decide +kernel
theorem dX13_leaf_15 : decode cX13_leaf 15 = .ok (.invokevirtual 73, 3) := by decide +kernel
theorem dX13_leaf_18 : decode cX13_leaf 18 = .ok (.ireturn, 1) := by decide +kernel
theorem dX13_leaf_19 : decode cX13_leaf 19 = .ok (.iload_n 3, 1) := by decide +kernel
theorem dX13_leaf_20 : decode cX13_leaf 20 = .ok (.ifCond .lt 20, 3) := by decide +kernel
theorem dX13_leaf_23 : decode cX13_leaf 23 = .ok (.iload_n 3, 1) := by decide +kernel
theorem dX13_leaf_24 : decode cX13_leaf 24 = .ok (.iconst 2, 1) := by decide +kernel
theorem dX13_leaf_25 : decode cX13_leaf 25 = .ok (.if_icmp .gt 15, 3) := by decide +kernel
theorem dX13_leaf_28 : decode cX13_leaf 28 = .ok (.iload 4, 2) := by decide +kernel
theorem dX13_leaf_30 : decode cX13_leaf 30 = .ok (.ifCond .lt 10, 3) := by decide +kernel
theorem dX13_leaf_33 : decode cX13_leaf 33 = .ok (.iload 4, 2) := by decide +kernel
theorem dX13_leaf_35 : decode cX13_leaf 35 = .ok (.bipush 6, 2) := by decide +kernel
theorem dX13_leaf_37 : decode cX13_leaf 37 = .ok (.if_icmp .le 9, 3) := by decide +kernel
theorem dX13_leaf_40 : decode cX13_leaf 40 = .ok (.aload_n 0, 1) := by decide +kernel
theorem dX13_leaf_41 : decode cX13_leaf 41 = .ok (.iconst 2, 1) := by decide +kernel
theorem dX13_leaf_42 : decode cX13_leaf 42 = .ok (.invokevirtual 73, 3) := by decide +kernel
theorem dX13_leaf_45 : decode cX13_leaf 45 = .ok (.ireturn, 1) := by decide +kernel
theorem dX13_leaf_46 : decode cX13_leaf 46 = .ok (.aload_n 0, 1) := by decide +kernel
theorem dX13_leaf_47 : decode cX13_leaf 47 = .ok (.getfield 12, 3) := by decide +kernel
theorem dX13_leaf_50 : decode cX13_leaf 50 = .ok (.iload_n 1, 1) := by decide +kernel
theorem dX13_leaf_51 : decode cX13_leaf 51 = .ok (.aaload, 1) := by decide +kernel
theorem dX13_leaf_52 : decode cX13_leaf 52 = .ok (.astore 5, 2) := by decide +kernel
theorem dX13_leaf_54 : decode cX13_leaf 54 = .ok (.aload 5, 2) := by decide +kernel
theorem dX13_leaf_56 : decode cX13_leaf 56 = .ok (.iload_n 2, 1) := by decide +kernel
theorem dX13_leaf_57 : decode cX13_leaf 57 = .ok (.invokevirtual 131, 3) := by decide +kernel
theorem dX13_leaf_60 : decode cX13_leaf 60 = .ok (.ifCond .ne 9, 3) := by decide +kernel
theorem dX13_leaf_63 : decode cX13_leaf 63 = .ok (.aload_n 0, 1) := by decide +kernel
theorem dX13_leaf_64 : decode cX13_leaf 64 = .ok (.iconst 3, 1) := by decide +kernel
theorem dX13_leaf_65 : decode cX13_leaf 65 = .ok (.invokevirtual 73, 3) := by decide +kernel
theorem dX13_leaf_68 : decode cX13_leaf 68 = .ok (.ireturn, 1) := by decide +kernel
theorem dX13_leaf_69 : decode cX13_leaf 69 = .ok (.aload 5, 2) := by decide +kernel
theorem dX13_leaf_71 : decode cX13_leaf 71 = .ok (.getfield 83, 3) := by decide +kernel
theorem dX13_leaf_74 : decode cX13_leaf 74 = .ok (.iload_n 2, 1) := by decide +kernel
theorem dX13_leaf_75 : decode cX13_leaf 75 = .ok (.iload 4, 2) := by decide +kernel
theorem dX13_leaf_77 : decode cX13_leaf 77 = .ok (.iastore, 1) := by decide +kernel
theorem dX13_leaf_78 : decode cX13_leaf 78 = .ok (.aload 5, 2) := by decide +kernel
theorem dX13_leaf_80 : decode cX13_leaf 80 = .ok (.getfield 157, 3) := by decide +kernel
theorem dX13_leaf_83 : decode cX13_leaf 83 = .ok (.iload_n 2, 1) := by decide +kernel
theorem dX13_leaf_84 : decode cX13_leaf 84 = .ok (.iconst 0, 1) := by decide +kernel
theorem dX13_leaf_85 : decode cX13_leaf 85 = .ok (.iastore, 1) := by decide +kernel
theorem dX13_leaf_86 : decode cX13_leaf 86 = .ok (.aload 5, 2) := by decide +kernel
theorem dX13_leaf_88 : decode cX13_leaf 88 = .ok (.getfield 158, 3) := by decide +kernel
theorem dX13_leaf_91 : decode cX13_leaf 91 = .ok (.iload_n 2, 1) := by decide +kernel
theorem dX13_leaf_92 : decode cX13_leaf 92 = .ok (.iload_n 3, 1) := by decide +kernel
theorem dX13_leaf_93 : decode cX13_leaf 93 = .ok (.iastore, 1) := by decide +kernel
theorem dX13_leaf_94 : decode cX13_leaf 94 = .ok (.aload 5, 2) := by decide +kernel
theorem dX13_leaf_96 : decode cX13_leaf 96 = .ok (.iconst 0, 1) := by decide +kernel
theorem dX13_leaf_97 : decode cX13_leaf 97 = .ok (.putfield 161, 3) := by decide +kernel
theorem dX13_leaf_100 : decode cX13_leaf 100 = .ok (.aload_n 0, 1) := by decide +kernel
theorem dX13_leaf_101 : decode cX13_leaf 101 = .ok (.iload 4, 2) := by decide +kernel
theorem dX13_leaf_103 : decode cX13_leaf 103 = .ok (.invokevirtual 86, 3) := by decide +kernel
theorem dX13_leaf_106 : decode cX13_leaf 106 = .ok (.ireturn, 1) := by decide +kernel
theorem dX13_tear_0 : decode cX13_tear 0 = .ok (.aload_n 0, 1) := by decide +kernel
theorem dX13_tear_1 : decode cX13_tear 1 = .ok (.iconst 0, 1) := by decide +kernel
theorem dX13_tear_2 : decode cX13_tear 2 = .ok (.putfield 55, 3) := by decide +kernel
theorem dX13_tear_5 : decode cX13_tear 5 = .ok (.aload_n 0, 1) := by decide +kernel
theorem dX13_tear_6 : decode cX13_tear 6 = .ok (.iload_n 1, 1) := by decide +kernel
theorem dX13_tear_7 : decode cX13_tear 7 = .ok (.invokevirtual 64, 3) := by decide +kernel
theorem dX13_tear_10 : decode cX13_tear 10 = .ok (.ifCond .ne 9, 3) := by decide +kernel
theorem dX13_tear_13 : decode cX13_tear 13 = .ok (.aload_n 0, 1) := by decide +kernel
theorem dX13_tear_14 : decode cX13_tear 14 = .ok (.iconst 1, 1) := by decide +kernel
theorem dX13_tear_15 : decode cX13_tear 15 = .ok (.invokevirtual 73, 3) := by decide +kernel
theorem dX13_tear_18 : decode cX13_tear 18 = .ok (.ireturn, 1) := by decide +kernel
theorem dX13_tear_19 : decode cX13_tear 19 = .ok (.aload_n 0, 1) := by decide +kernel
theorem dX13_tear_20 : decode cX13_tear 20 = .ok (.getfield 12, 3) := by decide +kernel
theorem dX13_tear_23 : decode cX13_tear 23 = .ok (.iload_n 1, 1) := by decide +kernel
theorem dX13_tear_24 : decode cX13_tear 24 = .ok (.aaload, 1) := by decide +kernel
theorem dX13_tear_25 : decode cX13_tear 25 = .ok (.astore_n 3, 1) := by decide +kernel
theorem dX13_tear_26 : decode cX13_tear 26 = .ok (.aload_n 3, 1) := by decide +kernel
theorem dX13_tear_27 : decode cX13_tear 27 = .ok (.iload_n 2, 1) := by decide +kernel
theorem dX13_tear_28 : decode cX13_tear 28 = .ok (.invokevirtual 131, 3) := by decide +kernel
theorem dX13_tear_31 : decode cX13_tear 31 = .ok (.ifCond .ne 9, 3) := by decide +kernel
theorem dX13_tear_34 : decode cX13_tear 34 = .ok (.aload_n 0, 1) := by decide +kernel
theorem dX13_tear_35 : decode cX13_tear 35 = .ok (.iconst 3, 1) := by decide +kernel
theorem dX13_tear_36 : decode cX13_tear 36 = .ok (.invokevirtual 73, 3) := by decide +kernel
theorem dX13_tear_39 : decode cX13_tear 39 = .ok (.ireturn, 1) := by decide +kernel
theorem dX13_tear_40 : decode cX13_tear 40 = .ok (.aload_n 3, 1) := by decide +kernel
theorem dX13_tear_41 : decode cX13_tear 41 = .ok (.getfield 83, 3) := by decide +kernel
theorem dX13_tear_44 : decode cX13_tear 44 = .ok (.iload_n 2, 1) := by decide +kernel
theorem dX13_tear_45 : decode cX13_tear 45 = .ok (.iaload, 1) := by decide +kernel
theorem dX13_tear_46 : decode cX13_tear 46 = .ok (.iconst (-1), 1) := by decide +kernel
theorem dX13_tear_47 : decode cX13_tear 47 = .ok (.if_icmp .ne 10, 3) := by decide +kernel
theorem dX13_tear_50 : decode cX13_tear 50 = .ok (.aload_n 0, 1) := by decide +kernel
theorem dX13_tear_51 : decode cX13_tear 51 = .ok (.bipush 10, 2) := by decide +kernel
theorem dX13_tear_53 : decode cX13_tear 53 = .ok (.invokevirtual 73, 3) := by decide +kernel
theorem dX13_tear_56 : decode cX13_tear 56 = .ok (.ireturn, 1) := by decide +kernel
theorem dX13_tear_57 : decode cX13_tear 57 = .ok (.aload_n 3, 1) := by decide +kernel
theorem dX13_tear_58 : decode cX13_tear 58 = .ok (.getfield 157, 3) := by decide +kernel
theorem dX13_tear_61 : decode cX13_tear 61 = .ok (.iload_n 2, 1) := by decide +kernel
theorem dX13_tear_62 : decode cX13_tear 62 = .ok (.iaload, 1) := by decide +kernel
theorem dX13_tear_63 : decode cX13_tear 63 = .ok (.istore 4, 2) := by decide +kernel
theorem dX13_tear_65 : decode cX13_tear 65 = .ok (.aload_n 3, 1) := by decide +kernel
theorem dX13_tear_66 : decode cX13_tear 66 = .ok (.getfield 83, 3) := by decide +kernel
theorem dX13_tear_69 : decode cX13_tear 69 = .ok (.iload_n 2, 1) := by decide +kernel
theorem dX13_tear_70 : decode cX13_tear 70 = .ok (.iconst (-1), 1) := by decide +kernel
theorem dX13_tear_71 : decode cX13_tear 71 = .ok (.iastore, 1) := by decide +kernel
theorem dX13_tear_72 : decode cX13_tear 72 = .ok (.aload_n 3, 1) := by decide +kernel
theorem dX13_tear_73 : decode cX13_tear 73 = .ok (.getfield 157, 3) := by decide +kernel
theorem dX13_tear_76 : decode cX13_tear 76 = .ok (.iload_n 2, 1) := by decide +kernel
theorem dX13_tear_77 : decode cX13_tear 77 = .ok (.iconst 0, 1) := by decide +kernel
theorem dX13_tear_78 : decode cX13_tear 78 = .ok (.iastore, 1) := by decide +kernel
theorem dX13_tear_79 : decode cX13_tear 79 = .ok (.aload_n 3, 1) := by decide +kernel
theorem dX13_tear_80 : decode cX13_tear 80 = .ok (.iconst 0, 1) := by decide +kernel
theorem dX13_tear_81 : decode cX13_tear 81 = .ok (.putfield 161, 3) := by decide +kernel
theorem dX13_tear_84 : decode cX13_tear 84 = .ok (.aload_n 0, 1) := by decide +kernel
theorem dX13_tear_85 : decode cX13_tear 85 = .ok (.iload 4, 2) := by decide +kernel
theorem dX13_tear_87 : decode cX13_tear 87 = .ok (.invokevirtual 86, 3) := by decide +kernel
theorem dX13_tear_90 : decode cX13_tear 90 = .ok (.ireturn, 1) := by decide +kernel
theorem dX13_loose_0 : decode cX13_loose 0 = .ok (.aload_n 0, 1) := by decide +kernel
theorem dX13_loose_1 : decode cX13_loose 1 = .ok (.iconst 0, 1) := by decide +kernel
theorem dX13_loose_2 : decode cX13_loose 2 = .ok (.putfield 55, 3) := by decide +kernel
theorem dX13_loose_5 : decode cX13_loose 5 = .ok (.aload_n 0, 1) := by decide +kernel
theorem dX13_loose_6 : decode cX13_loose 6 = .ok (.iload_n 1, 1) := by decide +kernel
theorem dX13_loose_7 : decode cX13_loose 7 = .ok (.invokevirtual 64, 3) := by decide +kernel
theorem dX13_loose_10 : decode cX13_loose 10 = .ok (.ifCond .ne 9, 3) := by decide +kernel
theorem dX13_loose_13 : decode cX13_loose 13 = .ok (.aload_n 0, 1) := by decide +kernel
theorem dX13_loose_14 : decode cX13_loose 14 = .ok (.iconst 1, 1) := by decide +kernel
theorem dX13_loose_15 : decode cX13_loose 15 = .ok (.invokevirtual 73, 3) := by decide +kernel
theorem dX13_loose_18 : decode cX13_loose 18 = .ok (.ireturn, 1) := by decide +kernel
theorem dX13_loose_19 : decode cX13_loose 19 = .ok (.iload_n 2, 1) := by decide +kernel
theorem dX13_loose_20 : decode cX13_loose 20 = .ok (.ldc 178, 2) := by decide +kernel
theorem dX13_loose_22 : decode cX13_loose 22 = .ok (.if_icmp .lt 9, 3) := by decide +kernel
theorem dX13_loose_25 : decode cX13_loose 25 = .ok (.iload_n 2, 1) := by decide +kernel
theorem dX13_loose_26 : decode cX13_loose 26 = .ok (.ldc 71, 2) := by decide +kernel
theorem dX13_loose_28 : decode cX13_loose 28 = .ok (.if_icmp .le 9, 3) := by decide +kernel
theorem dX13_loose_31 : decode cX13_loose 31 = .ok (.aload_n 0, 1) := by decide +kernel
theorem dX13_loose_32 : decode cX13_loose 32 = .ok (.iconst 2, 1) := by decide +kernel
theorem dX13_loose_33 : decode cX13_loose 33 = .ok (.invokevirtual 73, 3) := by decide +kernel
theorem dX13_loose_36 : decode cX13_loose 36 = .ok (.ireturn, 1) := by decide +kernel
theorem dX13_loose_37 : decode cX13_loose 37 = .ok (.aload_n 0, 1) := by decide +kernel
theorem dX13_loose_38 : decode cX13_loose 38 = .ok (.getfield 12, 3) := by decide +kernel
theorem dX13_loose_41 : decode cX13_loose 41 = .ok (.iload_n 1, 1) := by decide +kernel
theorem dX13_loose_42 : decode cX13_loose 42 = .ok (.aaload, 1) := by decide +kernel
theorem dX13_loose_43 : decode cX13_loose 43 = .ok (.astore_n 3, 1) := by decide +kernel
theorem dX13_loose_44 : decode cX13_loose 44 = .ok (.aload_n 3, 1) := by decide +kernel
theorem dX13_loose_45 : decode cX13_loose 45 = .ok (.getfield 179, 3) := by decide +kernel
theorem dX13_loose_48 : decode cX13_loose 48 = .ok (.iload_n 2, 1) := by decide +kernel
theorem dX13_loose_49 : decode cX13_loose 49 = .ok (.i2l, 1) := by decide +kernel
theorem dX13_loose_50 : decode cX13_loose 50 = .ok (.ladd, 1) := by decide +kernel
theorem dX13_loose_51 : decode cX13_loose 51 = .ok (.lstore 4, 2) := by decide +kernel
theorem dX13_loose_53 : decode cX13_loose 53 = .ok (.lload 4, 2) := by decide +kernel
theorem dX13_loose_55 : decode cX13_loose 55 = .ok (.ldc2_w 183, 3) := by decide +kernel
theorem dX13_loose_58 : decode cX13_loose 58 = .ok (.lcmp, 1) := by decide +kernel
theorem dX13_loose_59 : decode cX13_loose 59 = .ok (.ifCond .gt 12, 3) := by decide +kernel
theorem dX13_loose_62 : decode cX13_loose 62 = .ok (.lload 4, 2) := by decide +kernel
theorem dX13_loose_64 : decode cX13_loose 64 = .ok (.ldc2_w 185, 3) := by decide +kernel
theorem dX13_loose_67 : decode cX13_loose 67 = .ok (.lcmp, 1) := by decide +kernel
theorem dX13_loose_68 : decode cX13_loose 68 = .ok (.ifCond .ge 10, 3) := by decide +kernel
theorem dX13_loose_71 : decode cX13_loose 71 = .ok (.aload_n 0, 1) := by decide +kernel
theorem dX13_loose_72 : decode cX13_loose 72 = .ok (.bipush 9, 2) := by decide +kernel
theorem dX13_loose_74 : decode cX13_loose 74 = .ok (.invokevirtual 73, 3) := by decide +kernel
theorem dX13_loose_77 : decode cX13_loose 77 = .ok (.ireturn, 1) := by decide +kernel
theorem dX13_loose_78 : decode cX13_loose 78 = .ok (.aload_n 3, 1) := by decide +kernel
theorem dX13_loose_79 : decode cX13_loose 79 = .ok (.lload 4, 2) := by decide +kernel
theorem dX13_loose_81 : decode cX13_loose 81 = .ok (.putfield 179, 3) := by decide +kernel
theorem dX13_loose_84 : decode cX13_loose 84 = .ok (.aload_n 0, 1) := by decide +kernel
theorem dX13_loose_85 : decode cX13_loose 85 = .ok (.iconst 1, 1) := by decide +kernel
theorem dX13_loose_86 : decode cX13_loose 86 = .ok (.invokevirtual 86, 3) := by decide +kernel
theorem dX13_loose_89 : decode cX13_loose 89 = .ok (.ireturn, 1) := by decide +kernel
theorem dX13_end_0 : decode cX13_end 0 = .ok (.aload_n 0, 1) := by decide +kernel
theorem dX13_end_1 : decode cX13_end 1 = .ok (.iconst 0, 1) := by decide +kernel
theorem dX13_end_2 : decode cX13_end 2 = .ok (.putfield 55, 3) := by decide +kernel
theorem dX13_end_5 : decode cX13_end 5 = .ok (.aload_n 0, 1) := by decide +kernel
theorem dX13_end_6 : decode cX13_end 6 = .ok (.iload_n 1, 1) := by decide +kernel
theorem dX13_end_7 : decode cX13_end 7 = .ok (.invokevirtual 64, 3) := by decide +kernel
theorem dX13_end_10 : decode cX13_end 10 = .ok (.ifCond .ne 9, 3) := by decide +kernel
theorem dX13_end_13 : decode cX13_end 13 = .ok (.aload_n 0, 1) := by decide +kernel
theorem dX13_end_14 : decode cX13_end 14 = .ok (.iconst 1, 1) := by decide +kernel
theorem dX13_end_15 : decode cX13_end 15 = .ok (.invokevirtual 73, 3) := by decide +kernel
theorem dX13_end_18 : decode cX13_end 18 = .ok (.ireturn, 1) := by decide +kernel
theorem dX13_end_19 : decode cX13_end 19 = .ok (.aload_n 0, 1) := by decide +kernel
theorem dX13_end_20 : decode cX13_end 20 = .ok (.getfield 12, 3) := by decide +kernel
theorem dX13_end_23 : decode cX13_end 23 = .ok (.iload_n 1, 1) := by decide +kernel
theorem dX13_end_24 : decode cX13_end 24 = .ok (.aaload, 1) := by decide +kernel
theorem dX13_end_25 : decode cX13_end 25 = .ok (.astore_n 3, 1) := by decide +kernel
theorem dX13_end_26 : decode cX13_end 26 = .ok (.aload_n 3, 1) := by decide +kernel
theorem dX13_end_27 : decode cX13_end 27 = .ok (.getfield 233, 3) := by decide +kernel
theorem dX13_end_30 : decode cX13_end 30 = .ok (.ifCond .ne 10, 3) := by decide +kernel
theorem dX13_end_33 : decode cX13_end 33 = .ok (.aload_n 3, 1) := by decide +kernel
theorem dX13_end_34 : decode cX13_end 34 = .ok (.getfield 77, 3) := by decide +kernel
theorem dX13_end_37 : decode cX13_end 37 = .ok (.goto 16, 3) := by decide +kernel
theorem dX13_end_40 : decode cX13_end 40 = .ok (.aload_n 3, 1) := by decide +kernel
theorem dX13_end_41 : decode cX13_end 41 = .ok (.getfield 236, 3) := by decide +kernel
theorem dX13_end_44 : decode cX13_end 44 = .ok (.aload_n 3, 1) := by decide +kernel
theorem dX13_end_45 : decode cX13_end 45 = .ok (.getfield 233, 3) := by decide +kernel
theorem dX13_end_48 : decode cX13_end 48 = .ok (.iconst 1, 1) := by decide +kernel
theorem dX13_end_49 : decode cX13_end 49 = .ok (.isub, 1) := by decide +kernel
theorem dX13_end_50 : decode cX13_end 50 = .ok (.iaload, 1) := by decide +kernel
theorem dX13_end_51 : decode cX13_end 51 = .ok (.iconst 1, 1) := by decide +kernel
theorem dX13_end_52 : decode cX13_end 52 = .ok (.iadd, 1) := by decide +kernel
theorem dX13_end_53 : decode cX13_end 53 = .ok (.istore 4, 2) := by decide +kernel
theorem dX13_end_55 : decode cX13_end 55 = .ok (.iload_n 2, 1) := by decide +kernel
theorem dX13_end_56 : decode cX13_end 56 = .ok (.ifCond .lt 25, 3) := by decide +kernel
theorem dX13_end_59 : decode cX13_end 59 = .ok (.iload_n 2, 1) := by decide +kernel
theorem dX13_end_60 : decode cX13_end 60 = .ok (.sipush 1000, 3) := by decide +kernel
theorem dX13_end_63 : decode cX13_end 63 = .ok (.if_icmp .ge 18, 3) := by decide +kernel
theorem dX13_end_66 : decode cX13_end 66 = .ok (.iload_n 2, 1) := by decide +kernel
theorem dX13_end_67 : decode cX13_end 67 = .ok (.iload 4, 2) := by decide +kernel
theorem dX13_end_69 : decode cX13_end 69 = .ok (.if_icmp .lt 12, 3) := by decide +kernel
theorem dX13_end_72 : decode cX13_end 72 = .ok (.iload_n 2, 1) := by decide +kernel
theorem dX13_end_73 : decode cX13_end 73 = .ok (.iload 4, 2) := by decide +kernel
theorem dX13_end_75 : decode cX13_end 75 = .ok (.bipush 99, 2) := by decide +kernel
theorem dX13_end_77 : decode cX13_end 77 = .ok (.iadd, 1) := by decide +kernel
theorem dX13_end_78 : decode cX13_end 78 = .ok (.if_icmp .le 9, 3) := by decide +kernel
theorem dX13_end_81 : decode cX13_end 81 = .ok (.aload_n 0, 1) := by decide +kernel
theorem dX13_end_82 : decode cX13_end 82 = .ok (.iconst 3, 1) := by decide +kernel
theorem dX13_end_83 : decode cX13_end 83 = .ok (.invokevirtual 73, 3) := by decide +kernel
theorem dX13_end_86 : decode cX13_end 86 = .ok (.ireturn, 1) := by decide +kernel
theorem dX13_end_87 : decode cX13_end 87 = .ok (.aload_n 3, 1) := by decide +kernel
theorem dX13_end_88 : decode cX13_end 88 = .ok (.getfield 233, 3) := by decide +kernel
theorem dX13_end_91 : decode cX13_end 91 = .ok (.bipush 12, 2) := by decide +kernel
theorem dX13_end_93 : decode cX13_end 93 = .ok (.if_icmp .ne 10, 3) := by decide +kernel
theorem dX13_end_96 : decode cX13_end 96 = .ok (.aload_n 0, 1) := by decide +kernel
theorem dX13_end_97 : decode cX13_end 97 = .ok (.bipush 9, 2) := by decide +kernel
theorem dX13_end_99 : decode cX13_end 99 = .ok (.invokevirtual 73, 3) := by decide +kernel
theorem dX13_end_102 : decode cX13_end 102 = .ok (.ireturn, 1) := by decide +kernel
theorem dX13_end_103 : decode cX13_end 103 = .ok (.aload_n 3, 1) := by decide +kernel
theorem dX13_end_104 : decode cX13_end 104 = .ok (.getfield 236, 3) := by decide +kernel
theorem dX13_end_107 : decode cX13_end 107 = .ok (.aload_n 3, 1) := by decide +kernel
theorem dX13_end_108 : decode cX13_end 108 = .ok (.getfield 233, 3) := by decide +kernel
theorem dX13_end_111 : decode cX13_end 111 = .ok (.iload_n 2, 1) := by decide +kernel
theorem dX13_end_112 : decode cX13_end 112 = .ok (.iastore, 1) := by decide +kernel
theorem dX13_end_113 : decode cX13_end 113 = .ok (.aload_n 3, 1) := by decide +kernel
theorem dX13_end_114 : decode cX13_end 114 = .ok (.dup, 1) := by decide +kernel
theorem dX13_end_115 : decode cX13_end 115 = .ok (.getfield 233, 3) := by decide +kernel
theorem dX13_end_118 : decode cX13_end 118 = .ok (.iconst 1, 1) := by decide +kernel
theorem dX13_end_119 : decode cX13_end 119 = .ok (.iadd, 1) := by decide +kernel
theorem dX13_end_120 : decode cX13_end 120 = .ok (.putfield 233, 3) := by decide +kernel
theorem dX13_end_123 : decode cX13_end 123 = .ok (.aload_n 0, 1) := by decide +kernel
theorem dX13_end_124 : decode cX13_end 124 = .ok (.aload_n 3, 1) := by decide +kernel
theorem dX13_end_125 : decode cX13_end 125 = .ok (.getfield 233, 3) := by decide +kernel
theorem dX13_end_128 : decode cX13_end 128 = .ok (.invokevirtual 86, 3) := by decide +kernel
theorem dX13_end_131 : decode cX13_end 131 = .ok (.ireturn, 1) := by decide +kernel
theorem dX13_mend_0 : decode cX13_mend 0 = .ok (.aload_n 0, 1) := by decide +kernel
theorem dX13_mend_1 : decode cX13_mend 1 = .ok (.iconst 0, 1) := by decide +kernel
theorem dX13_mend_2 : decode cX13_mend 2 = .ok (.putfield 55, 3) := by decide +kernel
theorem dX13_mend_5 : decode cX13_mend 5 = .ok (.aload_n 0, 1) := by decide +kernel
theorem dX13_mend_6 : decode cX13_mend 6 = .ok (.iload_n 1, 1) := by decide +kernel
theorem dX13_mend_7 : decode cX13_mend 7 = .ok (.invokevirtual 64, 3) := by decide +kernel
theorem dX13_mend_10 : decode cX13_mend 10 = .ok (.ifCond .ne 9, 3) := by decide +kernel
theorem dX13_mend_13 : decode cX13_mend 13 = .ok (.aload_n 0, 1) := by decide +kernel
theorem dX13_mend_14 : decode cX13_mend 14 = .ok (.iconst 1, 1) := by decide +kernel
theorem dX13_mend_15 : decode cX13_mend 15 = .ok (.invokevirtual 73, 3) := by decide +kernel
theorem dX13_mend_18 : decode cX13_mend 18 = .ok (.ireturn, 1) := by decide +kernel
theorem dX13_mend_19 : decode cX13_mend 19 = .ok (.iload_n 3, 1) := by decide +kernel
theorem dX13_mend_20 : decode cX13_mend 20 = .ok (.ifCond .eq 15, 3) := by decide +kernel
theorem dX13_mend_23 : decode cX13_mend 23 = .ok (.iload_n 3, 1) := by decide +kernel
theorem dX13_mend_24 : decode cX13_mend 24 = .ok (.ldc 71, 2) := by decide +kernel
theorem dX13_mend_26 : decode cX13_mend 26 = .ok (.if_icmp .gt 9, 3) := by decide +kernel
theorem dX13_mend_29 : decode cX13_mend 29 = .ok (.iload_n 3, 1) := by decide +kernel
theorem dX13_mend_30 : decode cX13_mend 30 = .ok (.ldc 178, 2) := by decide +kernel
theorem dX13_mend_32 : decode cX13_mend 32 = .ok (.if_icmp .ge 9, 3) := by decide +kernel
theorem dX13_mend_35 : decode cX13_mend 35 = .ok (.aload_n 0, 1) := by decide +kernel
theorem dX13_mend_36 : decode cX13_mend 36 = .ok (.iconst 2, 1) := by decide +kernel
theorem dX13_mend_37 : decode cX13_mend 37 = .ok (.invokevirtual 73, 3) := by decide +kernel
theorem dX13_mend_40 : decode cX13_mend 40 = .ok (.ireturn, 1) := by decide +kernel
theorem dX13_mend_41 : decode cX13_mend 41 = .ok (.aload_n 0, 1) := by decide +kernel
theorem dX13_mend_42 : decode cX13_mend 42 = .ok (.getfield 12, 3) := by decide +kernel
theorem dX13_mend_45 : decode cX13_mend 45 = .ok (.iload_n 1, 1) := by decide +kernel
theorem dX13_mend_46 : decode cX13_mend 46 = .ok (.aaload, 1) := by decide +kernel
theorem dX13_mend_47 : decode cX13_mend 47 = .ok (.astore 4, 2) := by decide +kernel
theorem dX13_mend_49 : decode cX13_mend 49 = .ok (.iload_n 2, 1) := by decide +kernel
theorem dX13_mend_50 : decode cX13_mend 50 = .ok (.aload 4, 2) := by decide +kernel
theorem dX13_mend_52 : decode cX13_mend 52 = .ok (.getfield 77, 3) := by decide +kernel
theorem dX13_mend_55 : decode cX13_mend 55 = .ok (.if_icmp .lt 12, 3) := by decide +kernel
theorem dX13_mend_58 : decode cX13_mend 58 = .ok (.iload_n 2, 1) := by decide +kernel
theorem dX13_mend_59 : decode cX13_mend 59 = .ok (.aload 4, 2) := by decide +kernel
theorem dX13_mend_61 : decode cX13_mend 61 = .ok (.getfield 80, 3) := by decide +kernel
theorem dX13_mend_64 : decode cX13_mend 64 = .ok (.if_icmp .le 9, 3) := by decide +kernel
theorem dX13_mend_67 : decode cX13_mend 67 = .ok (.aload_n 0, 1) := by decide +kernel
theorem dX13_mend_68 : decode cX13_mend 68 = .ok (.iconst 3, 1) := by decide +kernel
theorem dX13_mend_69 : decode cX13_mend 69 = .ok (.invokevirtual 73, 3) := by decide +kernel
theorem dX13_mend_72 : decode cX13_mend 72 = .ok (.ireturn, 1) := by decide +kernel
theorem dX13_mend_73 : decode cX13_mend 73 = .ok (.aload 4, 2) := by decide +kernel
theorem dX13_mend_75 : decode cX13_mend 75 = .ok (.getfield 279, 3) := by decide +kernel
theorem dX13_mend_78 : decode cX13_mend 78 = .ok (.bipush 20, 2) := by decide +kernel
theorem dX13_mend_80 : decode cX13_mend 80 = .ok (.if_icmp .ne 10, 3) := by decide +kernel
theorem dX13_mend_83 : decode cX13_mend 83 = .ok (.aload_n 0, 1) := by decide +kernel
theorem dX13_mend_84 : decode cX13_mend 84 = .ok (.bipush 9, 2) := by decide +kernel
theorem dX13_mend_86 : decode cX13_mend 86 = .ok (.invokevirtual 73, 3) := by decide +kernel
theorem dX13_mend_89 : decode cX13_mend 89 = .ok (.ireturn, 1) := by decide +kernel
theorem dX13_mend_90 : decode cX13_mend 90 = .ok (.aload 4, 2) := by decide +kernel
theorem dX13_mend_92 : decode cX13_mend 92 = .ok (.getfield 358, 3) := by decide +kernel
theorem dX13_mend_95 : decode cX13_mend 95 = .ok (.aload 4, 2) := by decide +kernel
theorem dX13_mend_97 : decode cX13_mend 97 = .ok (.getfield 279, 3) := by decide +kernel
theorem dX13_mend_100 : decode cX13_mend 100 = .ok (.iload_n 2, 1) := by decide +kernel
theorem dX13_mend_101 : decode cX13_mend 101 = .ok (.iastore, 1) := by decide +kernel
theorem dX13_mend_102 : decode cX13_mend 102 = .ok (.aload 4, 2) := by decide +kernel
theorem dX13_mend_104 : decode cX13_mend 104 = .ok (.getfield 361, 3) := by decide +kernel
theorem dX13_mend_107 : decode cX13_mend 107 = .ok (.aload 4, 2) := by decide +kernel
theorem dX13_mend_109 : decode cX13_mend 109 = .ok (.getfield 279, 3) := by decide +kernel
theorem dX13_mend_112 : decode cX13_mend 112 = .ok (.iload_n 3, 1) := by decide +kernel
theorem dX13_mend_113 : decode cX13_mend 113 = .ok (.iastore, 1) := by decide +kernel
theorem dX13_mend_114 : decode cX13_mend 114 = .ok (.aload 4, 2) := by decide +kernel
theorem dX13_mend_116 : decode cX13_mend 116 = .ok (.dup, 1) := by decide +kernel
theorem dX13_mend_117 : decode cX13_mend 117 = .ok (.getfield 279, 3) := by decide +kernel
theorem dX13_mend_120 : decode cX13_mend 120 = .ok (.iconst 1, 1) := by decide +kernel
theorem dX13_mend_121 : decode cX13_mend 121 = .ok (.iadd, 1) := by decide +kernel
theorem dX13_mend_122 : decode cX13_mend 122 = .ok (.putfield 279, 3) := by decide +kernel
theorem dX13_mend_125 : decode cX13_mend 125 = .ok (.aload_n 0, 1) := by decide +kernel
theorem dX13_mend_126 : decode cX13_mend 126 = .ok (.aload 4, 2) := by decide +kernel
theorem dX13_mend_128 : decode cX13_mend 128 = .ok (.getfield 279, 3) := by decide +kernel
theorem dX13_mend_131 : decode cX13_mend 131 = .ok (.invokevirtual 86, 3) := by decide +kernel
theorem dX13_mend_134 : decode cX13_mend 134 = .ok (.ireturn, 1) := by decide +kernel
theorem wd_822 : Cond.constant RX13 178 (-1000000000) ∈ lw_good := mem_t6 239 (by decide +kernel) rfl
theorem wd_823 : Cond.constantLong RX13 183 1000000000000 ∈ lw_good := mem_t7 0 (by decide +kernel) rfl
theorem wd_824 : Cond.constantLong RX13 185 (-1000000000000) ∈ lw_good := mem_t7 1 (by decide +kernel) rfl
/-- of the Houses only the fields js may have changed -/
def fG (K : Kp) (L : List Nat) (js : List Nat) (M M' : Hp) : Prop := ∀ a, isk K L a 12 0 → ∀ fs fs' : List Value, M a = .inr (12, fs) → M' a = .inr (12, fs') → ∀ j, j ∉ js → fs'[j]? = fs[j]?
theorem inr12 {fs fs' : List Value} (h : (.inr (12, fs) : va_E) = .inr (12, fs')) : fs = fs' := (Prod.mk.inj (Sum.inr.inj h)).2
theorem fG.rf {K : Kp} {L js : List Nat} {M : Hp} : fG K L js M M := fun _ _ fs fs' h h' _ _ => by rw [inr12 (h.symm.trans h')]
theorem fG.frR {K : Kp} {L js ts : List Nat} {M M1 M2 : Hp} (h : fG K L js M M1) (g : fr K L ts M1 M2) (ht : 12 ∉ ts) : fG K L js M M2 := fun a ha fs fs' e e' j hj => by
  rw [g.at ha ht] at e'
  exact h a ha fs fs' e e' j hj
theorem fG.tr {cy : Nat → ClassId} {K : Kp} {L js us : List Nat} {M M1 M2 : Hp} (h : fG K L js M M1) (hW : WOM cy K L M1) (g : fG K L us M1 M2) (hs : ∀ t ∈ us, t ∈ js) : fG K L js M M2 := fun a ha fs fs' e e' j hj => by
  obtain ⟨f1, h1, _, _⟩ := hW.open_12 ha
  exact (g a ha f1 fs' h1 e' j (fun q => hj (hs _ q))).trans (h a ha fs f1 e h1 j hj)
theorem fG.up {K : Kp} {L js : List Nat} {M M1 : Hp} {a i : Nat} {gs : List Value} {v : Value} (h : fG K L js M M1) (hM : M1 a = .inr (12, gs)) (hi : i ∈ js) : fG K L js M (va_up M1 a (.inr (12, gs.set i v))) := fun b hb fs fs' e e' j hj => by
  by_cases q : b = a
  · subst q
    rw [va_up_self] at e'
    have e2 := inr12 e'
    rw [← e2, List.getElem?_set_ne (show i ≠ j from fun z => hj (z ▸ hi))]
    exact h b hb fs gs e hM j hj
  · rw [va_up_ne M1 _ q] at e'
    exact h b hb fs fs' e e' j hj
theorem fG.arr {K : Kp} {L js : List Nat} {M M1 : Hp} {a t n : Nat} {e0 : va_E} (h : fG K L js M M1) (ha : isk K L a t n) (ht : t ≠ 12) : fG K L js M (va_up M1 a e0) := fun b hb fs fs' e e' j hj => by
  have q : b ≠ a := fun z => ht (by subst z; exact (Prod.mk.inj (ha.2.symm.trans hb.2)).1)
  rw [va_up_ne M1 _ q] at e'
  exact h b hb fs fs' e e' j hj
theorem geN {x : Int32} {n : Nat} (hn : n < 2147483648) (h : nI n ≤ x) : ¬ x < 0 := fun q => by
  have h1 := Int32.le_iff_toInt_le.mp h
  have h2 := Int32.lt_iff_toInt_lt.mp q
  rw [nI_toInt hn] at h1
  rw [show (0 : Int32).toInt = 0 from rfl] at h2
  omega
theorem leB {x : Int32} {b c : Nat} (hc : c < b) (hb : b < 2147483648) (h : x ≤ nI c) : ¬ nI b ≤ x := fun q => by
  have h1 := Int32.le_iff_toInt_le.mp h
  have h2 := Int32.le_iff_toInt_le.mp q
  rw [nI_toInt (by omega)] at h1
  rw [nI_toInt hb] at h2
  omega
theorem m1B {x : Int32} (h : x ≤ (-1)) : ¬ 0 ≤ x := fun q => by
  have h1 := Int32.le_iff_toInt_le.mp h
  have h2 := Int32.le_iff_toInt_le.mp q
  rw [show (-1 : Int32).toInt = -1 from rfl] at h1
  rw [show (0 : Int32).toInt = 0 from rfl] at h2
  omega
set_option maxHeartbeats 4000000 in
set_option maxRecDepth 100000 in
theorem r_X13_loose (l : Launch) (D : va_G) (cy : Nat → ClassId) (K : Kp) (L : List Nat) (M : Hp) (sz : Nat) (za : Nat) (z0 : Int32) (z1 : Nat) (z2 : Nat) (z3 : Nat) (z4 : Int32) (z5 : Int32) (z6 : Nat) (z7 : Nat) (z8 : Nat) (z9 : Nat) (z10 : Nat) (z11 : Nat) (z12 : Nat) (z13 : Nat) (z14 : Nat) (z15 : Nat) (z16 : Nat) (z17 : Nat) (z18 : Int32) (z19 : Nat) (k1 : Int32) (k2 : Int32) (hW : WOM cy K L M) (i1 : isk K L z1 23 8) (b2 : z2 ≤ 8) (b3 : z3 ≤ 40) (i6 : isk K L z6 47 40) (i7 : isk K L z7 48 40) (i8 : isk K L z8 49 8) (i9 : isk K L z9 50 8) (b10 : z10 ≤ 8) (i11 : isk K L z11 32 24) (i12 : isk K L z12 14 24) (i13 : isk K L z13 97 24) (i14 : isk K L z14 98 24) (i15 : isk K L z15 99 24) (b16 : z16 ≤ 24) (i17 : isk K L z17 14 24) (i19 : isk K L z19 15 25) : Met l yX13_loose (wsM yX13_loose cX13_loose 6 (some .int)) ({ frames := 1, cells := 0, slots := 0, locals := 21 }) (va_Pc [.ref za, .int k1, .int k2] (PG D cy [(za, (b13_0 z0 z1 (nI z2) (nI z3) z4 z5 z6 z7 z8 z9 (nI z10) z11 z12 z13 z14 z15 (nI z16) z17 z18 z19))] L M sz)) (va_Qi (fun (r : Int32) (M9 : Hp) => WOM cy K L M9 ∧ fr K L [12] M M9 ∧ fG K L [7] M M9 ∧ (True)) (fun M9 t => ∃ (w4 : Int32), PQ D [(za, (b13_0 0 z1 (nI z2) (nI z3) w4 (-1) z6 z7 z8 z9 (nI z10) z11 z12 z13 z14 z15 (nI z16) z17 z18 z19))] L M9 (va_A ([(za, (b13_0 z0 z1 (nI z2) (nI z3) z4 z5 z6 z7 z8 z9 (nI z10) z11 z12 z13 z14 z15 (nI z16) z17 z18 z19))] ++ va_pl L M) sz) t) (va_A ([(za, (b13_0 z0 z1 (nI z2) (nI z3) z4 z5 z6 z7 z8 z9 (nI z10) z11 z12 z13 z14 z15 (nI z16) z17 z18 z19))] ++ va_pl L M) sz)) 0 0 (va_A ([(za, (b13_0 z0 z1 (nI z2) (nI z3) z4 z5 z6 z7 z8 z9 (nI z10) z11 z12 z13 z14 z15 (nI z16) z17 z18 z19))] ++ va_pl L M) sz) := by
  refine Met.ofW (cc := cX13_loose) (maxL := 6) (ret := (some .int)) (by decide) rfl ?_
  intro p e s m args below meth c s₁ B hml hv
  obtain ⟨rfl, hsz, hP, hK, hD0, hN⟩ := hv
  have hx := B.exec
  have hb := B.bytes
  have hr := B.returns
  have hts := atoms_spec (ws := (wsM yX13_loose cX13_loose 6 (some .int))) B.pre
  have hg : ∀ w ∈ lw_good, w.before _ s = true := fun w h => hts w (List.mem_cons_of_mem _ h)
  have hown : s.vm.findClass RX13 = some m.cls := findClass_of_methodNamed B.named
  have hlocks := B.notSynchronized
  subst hsz
  have hD := hD0.self (sz := s.heap.size)
  generalize hAe : va_A ([(za, (b13_0 z0 z1 (nI z2) (nI z3) z4 z5 z6 z7 z8 z9 (nI z10) z11 z12 z13 z14 z15 (nI z16) z17 z18 z19))] ++ va_pl L M) s.heap.size = A at hD ⊢
  have hA : ∀ q : Nat, s.heap.size ≤ q → A q := fun q h => by rw [← hAe]; exact Or.inr h
  have hS : va_S A s.heap s.heap [] := va_S.rf
  have hl := lv_entry ([.ref za, .int k1, .int k2]) (n := 6) (Nat.le_of_ble_eq_true rfl)
  rw [lg_entry_eq]
  generalize (lg_sl ([.ref za, .int k1, .int k2]) ++ List.replicate (6 - (lg_sl ([.ref za, .int k1, .int k2])).length) Slot.unset).toArray = ls at hl ⊢
  refine W.nameQ (fun Q hQ => ?_)
  refine W.nameR (fun R hR => ?_)
  have hRf : 1 ≤ R.frames := by rw [hR]; exact Nat.le_of_ble_eq_true rfl
  have hRl : 21 ≤ R.locals := by rw [hR]; exact Nat.le_of_ble_eq_true rfl
  have hRc : 0 ≤ R.cells := by rw [hR]; exact Nat.le_of_ble_eq_true rfl
  have hRs : 0 ≤ R.slots := by rw [hR]; exact Nat.le_of_ble_eq_true rfl
  have hF : fr K L [12] M M := fr.rf
  have hG : fG K L [7] M M := fG.rf
  have hl : lv_has ls 6 [(0, .ref za), (1, .int k1), (2, .int k2)] := hl
  refine lv_aload_n hx hb dX13_loose_0 rfl (lv_at hl 0 rfl) ?_
  refine lv_iconst (v := 0) hx hb dX13_loose_1 (by decide) ?_
  refine va_put (D := D) (ci := 13) (v := .int 0) (ty := .int) (C := RX13) (T := TX13) (N := 20) hx hb hg inG13 tyX13 tyX13_ok nmX13 hown hK hP hD hS 0 rfl rfl 0 (by decide) (hg _ wd_720) (fun _ h9 => h9) rfl (by decide +kernel) rfl rfl (Nat.le_of_ble_eq_true rfl) dX13_loose_2 (fun H_1 locs hP hD hS => ?_)
  have hP : va_P D vwCl ([(za, (b13_0 0 z1 (nI z2) (nI z3) z4 z5 z6 z7 z8 z9 (nI z10) z11 z12 z13 z14 z15 (nI z16) z17 z18 z19))] ++ va_pl L M) H_1 := hP
  have hD : va_D A ([(za, (b13_0 0 z1 (nI z2) (nI z3) z4 z5 z6 z7 z8 z9 (nI z10) z11 z12 z13 z14 z15 (nI z16) z17 z18 z19))] ++ va_pl L M) := hD
  refine lv_aload_n hx hb dX13_loose_5 rfl (lv_at hl 0 rfl) ?_
  refine lv_iload_n hx hb dX13_loose_6 rfl (lv_at hl 1 rfl) ?_
  have hPc : va_P D vwCl ([(za, (b13_0 0 z1 (nI z2) (nI z3) z4 z5 z6 z7 z8 z9 (nI z10) z11 z12 z13 z14 z15 (nI z16) z17 z18 z19))] ++ va_pl L M) H_1 := hP
  have hDc : va_D A ([(za, (b13_0 0 z1 (nI z2) (nI z3) z4 z5 z6 z7 z8 z9 (nI z10) z11 z12 z13 z14 z15 (nI z16) z17 z18 z19))] ++ va_pl L M) := hD
  have hFc : ∀ q, va_A ([(za, (b13_0 0 z1 (nI z2) (nI z3) z4 z5 z6 z7 z8 z9 (nI z10) z11 z12 z13 z14 z15 (nI z16) z17 z18 z19))] ++ va_pl L M) H_1.size q → A q := pg_free hDc hS hA
  refine va_calli (va_runV (As := [.int k1]) (rest := []) ⟨hx, hb, hml, hown, hg⟩ (r_X13_isHouse l D cy K L M H_1.size za 0 z1 z2 z3 z4 z5 z6 z7 z8 z9 z10 z11 z12 z13 z14 z15 z16 z17 z18 z19 k1  hW i1 b2 b3 i6 i7 i8 i9 b10 i11 i12 i13 i14 i15 b16 i17 i19) (cwV 1 hg (gV wd_714 wd_715 wd_716 wd_717 wd_718) rfl rfl rfl (by decide +kernel) ⟨(Nat.le_trans (Nat.le_of_ble_eq_true rfl) hRf), (Nat.le_trans (Nat.le_of_ble_eq_true rfl) hRl)⟩) ⟨PG.blind, va_recv hK hP (ci := 13) (q0 := 0) rfl rfl, fun U hU hW => ⟨rfl, PG.at hPc hK hDc hN hU hW⟩⟩ rfl rfl hl.1 rfl (lv_room (Nat.le_of_ble_eq_true rfl)) dX13_loose_7 ⟨(Nat.le_trans (Nat.le_of_ble_eq_true rfl) hRc), (Nat.le_trans (Nat.le_of_ble_eq_true rfl) hRs)⟩) hS (fun q _ h => hFc q h) hFc (fun r_3 M_4 t H_2 locs ht hvm hw hB hz1 hk1 hS => ?_)
  have hp_5 := hw
  obtain ⟨hP1, hD1⟩ := hB
  rw [ht] at hP1
  have hP : va_P D vwCl ([(za, (b13_0 0 z1 (nI z2) (nI z3) z4 z5 z6 z7 z8 z9 (nI z10) z11 z12 z13 z14 z15 (nI z16) z17 z18 z19))] ++ va_pl L M) H_2 := hP1
  have hD : va_D A ([(za, (b13_0 0 z1 (nI z2) (nI z3) z4 z5 z6 z7 z8 z9 (nI z10) z11 z12 z13 z14 z15 (nI z16) z17 z18 z19))] ++ va_pl L M) := hD1.mono hFc
  rcases hp_5 with ⟨rfl, c_6, c_7⟩ | rfl
  · have hz := rfl (a := 0)
    refine lv_if_ne (tgt := 19) hx hb dX13_loose_10 (by decide) (fun _ => ?_) (fun c_8 => absurd c_8 (by decide))
    refine lv_iload_n hx hb dX13_loose_19 rfl (lv_at hl 2 rfl) ?_
    refine lv_ldc (v := (-1000000000)) hx hb hown (hg _ wd_822) dX13_loose_20 ?_
    refine lv_icmp_lt (tgt := 31) hx hb dX13_loose_22 (by decide) (fun c_9 => ?_) (fun c_9 => ?_)
    · have hz := rfl (a := 0)
      refine lv_aload_n hx hb dX13_loose_31 rfl (lv_at hl 0 rfl) ?_
      refine lv_iconst (v := 2) hx hb dX13_loose_32 (by decide) ?_
      have hPc := hP.sub (ws' := [(za, (b13_0 0 z1 (nI z2) (nI z3) z4 z5 z6 z7 z8 z9 (nI z10) z11 z12 z13 z14 z15 (nI z16) z17 z18 z19))]) [0] rfl
      have hDc := hD.sub (ws' := [(za, (b13_0 0 z1 (nI z2) (nI z3) z4 z5 z6 z7 z8 z9 (nI z10) z11 z12 z13 z14 z15 (nI z16) z17 z18 z19))]) [0] (by decide) rfl
      have hKc := hK.sub (tys' := []) [] rfl
      have hFc := va_free (wc := [(za, (b13_0 0 z1 (nI z2) (nI z3) z4 z5 z6 z7 z8 z9 (nI z10) z11 z12 z13 z14 z15 (nI z16) z17 z18 z19))]) hD hS hA [0] rfl
      refine va_calli (va_runV (As := [.int 2]) (rest := []) ⟨hx, hb, hml, hown, hg⟩ (m_refused l D H_2.size za 0 z1 (nI z2) (nI z3) z4 z5 z6 z7 z8 z9 (nI z10) z11 z12 z13 z14 z15 (nI z16) z17 z18 z19 2) (cwV 1 hg (gV wd_725 wd_726 wd_727 wd_717 wd_728) rfl rfl rfl (by decide +kernel) ⟨(Nat.le_trans (Nat.le_of_ble_eq_true rfl) hRf), (Nat.le_trans (Nat.le_of_ble_eq_true rfl) hRl)⟩) ⟨Pr.blind, va_recv hK hP (ci := 13) (q0 := 0) rfl rfl, fun U hU hW => ⟨rfl, Pr.at hPc hKc hDc hN hU hW⟩⟩ rfl rfl hl.1 rfl (lv_room (Nat.le_of_ble_eq_true rfl)) dX13_loose_33 ⟨(Nat.le_trans (Nat.le_of_ble_eq_true rfl) hRc), (Nat.le_trans (Nat.le_of_ble_eq_true rfl) hRs)⟩) hS (fun q _ h => hFc q h) hFc (fun r_11 M_12 t H_10 locs ht hvm hw hB hz1 hk1 hS => ?_)
      have hp_13 := hw
      obtain ⟨hP1, hK1, hD1⟩ := hB
      rw [ht] at hP1
      obtain ⟨hP, hD⟩ := va_joinQ (X := [(za, (b13_0 0 z1 (nI z2) (nI z3) z4 z5 z6 z7 z8 z9 (nI z10) z11 z12 z13 z14 z15 (nI z16) z17 z18 z19))]) (cx := [(za, (b13_0 0 z1 (nI z2) (nI z3) z4 z5 z6 z7 z8 z9 (nI z10) z11 z12 z13 z14 z15 (nI z16) z17 z18 z19))]) (wr := []) (w1 := [(za, (b13_0 0 z1 (nI z2) (nI z3) 2 (-1) z6 z7 z8 z9 (nI z10) z11 z12 z13 z14 z15 (nI z16) z17 z18 z19))]) (pl := va_pl L M) hP hD [0] [] rfl rfl (by decide) (by decide) hk1 hFc hP1 hD1
      have hP : va_P D vwCl ([(za, (b13_0 0 z1 (nI z2) (nI z3) 2 (-1) z6 z7 z8 z9 (nI z10) z11 z12 z13 z14 z15 (nI z16) z17 z18 z19))] ++ va_pl L M) H_10 := hP
      have hD : va_D A ([(za, (b13_0 0 z1 (nI z2) (nI z3) 2 (-1) z6 z7 z8 z9 (nI z10) z11 z12 z13 z14 z15 (nI z16) z17 z18 z19))] ++ va_pl L M) := hD
      have hq := Eq.symm hp_13
      subst hq
      rw [hQ]
      exact W.iret (v := (-1)) hx hb hr (fun t ht hW9 => ⟨⟨(-1), M, rfl, ⟨hW, hF, hG, trivial⟩, ⟨2, by rw [ht]; exact hP, hD⟩⟩, hS.F ht⟩) hS.2.2 dX13_loose_36
    · have hz := rfl (a := 0)
      refine lv_iload_n hx hb dX13_loose_25 rfl (lv_at hl 2 rfl) ?_
      refine lv_ldc (v := 1000000000) hx hb hown (hg _ wd_712) dX13_loose_26 ?_
      refine lv_icmp_le (tgt := 37) hx hb dX13_loose_28 (by decide) (fun c_14 => ?_) (fun c_14 => ?_)
      · have hz := rfl (a := 0)
        refine lv_aload_n hx hb dX13_loose_37 rfl (lv_at hl 0 rfl) ?_
        refine va_get (D := D) (ci := 13) (v := .ref z1) (C := RX13) (T := TX13) (N := 20) hx hb hg inG13 hown hK hP 0 rfl rfl 1 (by decide) (hg _ wd_739) (fun _ h9 => h9) rfl dX13_loose_38 ?_
        refine lv_iload_n hx hb dX13_loose_41 rfl (lv_at hl 1 rfl) ?_
        obtain ⟨f15, hM15, hf15⟩ := hW.open_23 i1
        have hi_16 : vp_in k1 8 := (inbW (a := z2) (by omega) (inb k1 z2 (by omega) c_6 c_7))
        refine pg_aldq hx hb hK hP i1.1 9 hM15 rfl hi_16 dX13_loose_42 ?_
        obtain ⟨b17, eb_18, hb_19⟩ := hf15 _ (vp_lt hi_16)
        rw [eb_18]
        refine lv_astore_n (lv' := [(3, .ref b17), (0, .ref za), (1, .int k1), (2, .int k2)]) hx hb dX13_loose_43 rfl hl (by decide) rfl (fun ls hl => ?_)
        refine lv_aload_n hx hb dX13_loose_44 rfl (lv_at hl 0 rfl) ?_
        obtain ⟨fs20, hM20, hn20, hl20⟩ := hW.open_12 hb_19
        obtain ⟨v21, hv21⟩ : ∃ v : Int64, fs20[7]? = some (.long v : Value) := hl20 7 (by decide)
        refine pg_getN (D := D) (ci := 12) (v := .long v21) (C := RX12) (T := TX12) (N := 51) hx hb hg inG12 hown hK hP hb_19.1 hM20 rfl 7 (by decide) (hN.use (Cond.fieldLinkNest RX13 179 RX12 "loose" "J" RX13) 16 rfl rfl) (fun _ h9 => h9) hv21 dX13_loose_45 ?_
        refine lv_iload_n hx hb dX13_loose_48 rfl (lv_at hl 3 rfl) ?_
        refine lv_i2l hx hb dX13_loose_49 rfl ?_
        refine lv_topl (fun f_22 ef_22 => ?_)
        refine lv_ladd hx hb dX13_loose_50 ?_
        refine lv_topl (fun f_23 ef_23 => ?_)
        refine lv_lstore (lv' := [(4, .long f_23), (3, .ref b17), (0, .ref za), (1, .int k1), (2, .int k2)]) hx hb dX13_loose_51 hl (by decide) rfl (fun ls hl => ?_)
        refine lv_lload hx hb dX13_loose_53 (lv_at hl 0 rfl) ?_
        refine lv_ldc2 (v := 1000000000000) hx hb hown (hg _ wd_823) dX13_loose_55 ?_
        refine W.lcmp hx hb dX13_loose_58 ?_
        refine lv_if_gt (tgt := 71) hx hb dX13_loose_59 (by decide) (fun c_24 => ?_) (fun c_24 => ?_)
        · have hz := rfl (a := 0)
          have d_25 : 1000000000000 < f_23 := lc_gtt c_24
          refine lv_aload_n hx hb dX13_loose_71 rfl (lv_at hl 2 rfl) ?_
          refine lv_bipush (v := 9) hx hb dX13_loose_72 (by decide) ?_
          have hPc := hP.sub (ws' := [(za, (b13_0 0 z1 (nI z2) (nI z3) z4 z5 z6 z7 z8 z9 (nI z10) z11 z12 z13 z14 z15 (nI z16) z17 z18 z19))]) [0] rfl
          have hDc := hD.sub (ws' := [(za, (b13_0 0 z1 (nI z2) (nI z3) z4 z5 z6 z7 z8 z9 (nI z10) z11 z12 z13 z14 z15 (nI z16) z17 z18 z19))]) [0] (by decide) rfl
          have hKc := hK.sub (tys' := []) [] rfl
          have hFc := va_free (wc := [(za, (b13_0 0 z1 (nI z2) (nI z3) z4 z5 z6 z7 z8 z9 (nI z10) z11 z12 z13 z14 z15 (nI z16) z17 z18 z19))]) hD hS hA [0] rfl
          refine va_calli (va_runV (As := [.int 9]) (rest := []) ⟨hx, hb, hml, hown, hg⟩ (m_refused l D H_2.size za 0 z1 (nI z2) (nI z3) z4 z5 z6 z7 z8 z9 (nI z10) z11 z12 z13 z14 z15 (nI z16) z17 z18 z19 9) (cwV 1 hg (gV wd_725 wd_726 wd_727 wd_717 wd_728) rfl rfl rfl (by decide +kernel) ⟨(Nat.le_trans (Nat.le_of_ble_eq_true rfl) hRf), (Nat.le_trans (Nat.le_of_ble_eq_true rfl) hRl)⟩) ⟨Pr.blind, va_recv hK hP (ci := 13) (q0 := 0) rfl rfl, fun U hU hW => ⟨rfl, Pr.at hPc hKc hDc hN hU hW⟩⟩ rfl rfl hl.1 rfl (lv_room (Nat.le_of_ble_eq_true rfl)) dX13_loose_74 ⟨(Nat.le_trans (Nat.le_of_ble_eq_true rfl) hRc), (Nat.le_trans (Nat.le_of_ble_eq_true rfl) hRs)⟩) hS (fun q _ h => hFc q h) hFc (fun r_27 M_28 t H_26 locs ht hvm hw hB hz1 hk1 hS => ?_)
          have hp_29 := hw
          obtain ⟨hP1, hK1, hD1⟩ := hB
          rw [ht] at hP1
          obtain ⟨hP, hD⟩ := va_joinQ (X := [(za, (b13_0 0 z1 (nI z2) (nI z3) z4 z5 z6 z7 z8 z9 (nI z10) z11 z12 z13 z14 z15 (nI z16) z17 z18 z19))]) (cx := [(za, (b13_0 0 z1 (nI z2) (nI z3) z4 z5 z6 z7 z8 z9 (nI z10) z11 z12 z13 z14 z15 (nI z16) z17 z18 z19))]) (wr := []) (w1 := [(za, (b13_0 0 z1 (nI z2) (nI z3) 9 (-1) z6 z7 z8 z9 (nI z10) z11 z12 z13 z14 z15 (nI z16) z17 z18 z19))]) (pl := va_pl L M) hP hD [0] [] rfl rfl (by decide) (by decide) hk1 hFc hP1 hD1
          have hP : va_P D vwCl ([(za, (b13_0 0 z1 (nI z2) (nI z3) 9 (-1) z6 z7 z8 z9 (nI z10) z11 z12 z13 z14 z15 (nI z16) z17 z18 z19))] ++ va_pl L M) H_26 := hP
          have hD : va_D A ([(za, (b13_0 0 z1 (nI z2) (nI z3) 9 (-1) z6 z7 z8 z9 (nI z10) z11 z12 z13 z14 z15 (nI z16) z17 z18 z19))] ++ va_pl L M) := hD
          have hq := Eq.symm hp_29
          subst hq
          rw [hQ]
          exact W.iret (v := (-1)) hx hb hr (fun t ht hW9 => ⟨⟨(-1), M, rfl, ⟨hW, hF, hG, trivial⟩, ⟨9, by rw [ht]; exact hP, hD⟩⟩, hS.F ht⟩) hS.2.2 dX13_loose_77
        · have hz := rfl (a := 0)
          have d_25 : ¬ 1000000000000 < f_23 := lc_gtf c_24
          refine lv_lload hx hb dX13_loose_62 (lv_at hl 0 rfl) ?_
          refine lv_ldc2 (v := (-1000000000000)) hx hb hown (hg _ wd_824) dX13_loose_64 ?_
          refine W.lcmp hx hb dX13_loose_67 ?_
          refine lv_if_ge (tgt := 78) hx hb dX13_loose_68 (by decide) (fun c_30 => ?_) (fun c_30 => ?_)
          · have hz := rfl (a := 0)
            refine lv_aload_n hx hb dX13_loose_78 rfl (lv_at hl 1 rfl) ?_
            refine lv_lload hx hb dX13_loose_79 (lv_at hl 0 rfl) ?_
            refine pg_putN (D := D) (ci := 12) (v := .long f_23) (ty := .long) (C := RX12) (T := TX12) (N := 51) hx hb hg inG12 tyX12 tyX12_ok nmX12 hown hK hP hD hS hb_19.1 hM20 rfl 7 (by decide) (hN.use (Cond.fieldLinkNest RX13 179 RX12 "loose" "J" RX13) 16 rfl rfl) (fun _ h9 => h9) rfl (by decide +kernel) rfl rfl (by rw [hn20]; decide) dX13_loose_81 (fun H_32 locs hP hD hS => ?_)
            have hs_35 : (fs20.set 7 (.long f_23))[7]? = some (.long f_23) := List.getElem?_set_self (by rw [hn20]; decide)
            have hk_34 := fld12_set (k := 7) (w := .long f_23) hl20 (show fld12 K L 7 (fs20.set 7 (.long f_23)) from ⟨f_23, hs_35⟩)
            have hn_36 : (fs20.set 7 (.long f_23)).length = 51 := by rw [List.length_set]; exact hn20
            obtain ⟨M_37, eM_37⟩ : ∃ M1 : Hp, M1 = va_up M b17 (.inr (12, fs20.set 7 (.long f_23))) := ⟨_, rfl⟩
            have hP : va_P D vwCl ([(za, (b13_0 0 z1 (nI z2) (nI z3) z4 z5 z6 z7 z8 z9 (nI z10) z11 z12 z13 z14 z15 (nI z16) z17 z18 z19))] ++ va_pl L M_37) H_32 := by rw [eM_37]; exact hP
            have hD : va_D A ([(za, (b13_0 0 z1 (nI z2) (nI z3) z4 z5 z6 z7 z8 z9 (nI z10) z11 z12 z13 z14 z15 (nI z16) z17 z18 z19))] ++ va_pl L M_37) := by rw [eM_37]; exact hD
            have hW : WOM cy K L M_37 := by rw [eM_37]; exact hW.up_12 hb_19 ⟨_, rfl, hn_36, hk_34⟩
            have hF : fr K L [12] M M_37 := by rw [eM_37]; exact hF.up hb_19 (by decide)
            have hG : fG K L [7] M M_37 := by rw [eM_37]; exact hG.up hM20 (by decide)
            have hM_38 : M_37 b17 = .inr (12, fs20.set 7 (.long f_23)) := by rw [eM_37]; exact va_up_self _ _ _
            have hM_39 : M_37 z1 = .inl (cy 23, 8, .inr (.inr (.inr (.inr (f15))))) := by rw [eM_37, va_up_ne _ _ (i1.neT hb_19 (by decide))]; exact hM15
            refine lv_aload_n hx hb dX13_loose_84 rfl (lv_at hl 2 rfl) ?_
            refine lv_iconst (v := 1) hx hb dX13_loose_85 (by decide) ?_
            have hPc := hP.sub (ws' := [(za, (b13_0 0 z1 (nI z2) (nI z3) z4 z5 z6 z7 z8 z9 (nI z10) z11 z12 z13 z14 z15 (nI z16) z17 z18 z19))]) [0] rfl
            have hDc := hD.sub (ws' := [(za, (b13_0 0 z1 (nI z2) (nI z3) z4 z5 z6 z7 z8 z9 (nI z10) z11 z12 z13 z14 z15 (nI z16) z17 z18 z19))]) [0] (by decide) rfl
            have hKc := hK.sub (tys' := []) [] rfl
            have hFc := va_free (wc := [(za, (b13_0 0 z1 (nI z2) (nI z3) z4 z5 z6 z7 z8 z9 (nI z10) z11 z12 z13 z14 z15 (nI z16) z17 z18 z19))]) hD hS hA [0] rfl
            refine va_calli (va_runV (As := [.int 1]) (rest := []) ⟨hx, hb, hml, hown, hg⟩ (m_done l D H_32.size za 0 z1 (nI z2) (nI z3) z4 z5 z6 z7 z8 z9 (nI z10) z11 z12 z13 z14 z15 (nI z16) z17 z18 z19 1) (cwV 1 hg (gV wd_730 wd_731 wd_732 wd_717 wd_733) rfl rfl rfl (by decide +kernel) ⟨(Nat.le_trans (Nat.le_of_ble_eq_true rfl) hRf), (Nat.le_trans (Nat.le_of_ble_eq_true rfl) hRl)⟩) ⟨Pr.blind, va_recv hK hP (ci := 13) (q0 := 0) rfl rfl, fun U hU hW => ⟨rfl, Pr.at hPc hKc hDc hN hU hW⟩⟩ rfl rfl hl.1 rfl (lv_room (Nat.le_of_ble_eq_true rfl)) dX13_loose_86 ⟨(Nat.le_trans (Nat.le_of_ble_eq_true rfl) hRc), (Nat.le_trans (Nat.le_of_ble_eq_true rfl) hRs)⟩) hS (fun q _ h => hFc q h) hFc (fun r_41 M_42 t H_40 locs ht hvm hw hB hz1 hk1 hS => ?_)
            have hp_43 := hw
            obtain ⟨hP1, hK1, hD1⟩ := hB
            rw [ht] at hP1
            obtain ⟨hP, hD⟩ := va_joinQ (X := [(za, (b13_0 0 z1 (nI z2) (nI z3) z4 z5 z6 z7 z8 z9 (nI z10) z11 z12 z13 z14 z15 (nI z16) z17 z18 z19))]) (cx := [(za, (b13_0 0 z1 (nI z2) (nI z3) z4 z5 z6 z7 z8 z9 (nI z10) z11 z12 z13 z14 z15 (nI z16) z17 z18 z19))]) (wr := []) (w1 := [(za, (b13_0 0 z1 (nI z2) (nI z3) 0 (-1) z6 z7 z8 z9 (nI z10) z11 z12 z13 z14 z15 (nI z16) z17 z18 z19))]) (pl := va_pl L M_37) hP hD [0] [] rfl rfl (by decide) (by decide) hk1 hFc hP1 hD1
            have hP : va_P D vwCl ([(za, (b13_0 0 z1 (nI z2) (nI z3) 0 (-1) z6 z7 z8 z9 (nI z10) z11 z12 z13 z14 z15 (nI z16) z17 z18 z19))] ++ va_pl L M_37) H_40 := hP
            have hD : va_D A ([(za, (b13_0 0 z1 (nI z2) (nI z3) 0 (-1) z6 z7 z8 z9 (nI z10) z11 z12 z13 z14 z15 (nI z16) z17 z18 z19))] ++ va_pl L M_37) := hD
            have hq := Eq.symm hp_43
            subst hq
            rw [hQ]
            exact W.iret (v := 1) hx hb hr (fun t ht hW9 => ⟨⟨1, M_37, rfl, ⟨hW, hF, hG, trivial⟩, ⟨0, by rw [ht]; exact hP, hD⟩⟩, hS.F ht⟩) hS.2.2 dX13_loose_89
          · have hz := rfl (a := 0)
            refine lv_aload_n hx hb dX13_loose_71 rfl (lv_at hl 2 rfl) ?_
            refine lv_bipush (v := 9) hx hb dX13_loose_72 (by decide) ?_
            have hPc := hP.sub (ws' := [(za, (b13_0 0 z1 (nI z2) (nI z3) z4 z5 z6 z7 z8 z9 (nI z10) z11 z12 z13 z14 z15 (nI z16) z17 z18 z19))]) [0] rfl
            have hDc := hD.sub (ws' := [(za, (b13_0 0 z1 (nI z2) (nI z3) z4 z5 z6 z7 z8 z9 (nI z10) z11 z12 z13 z14 z15 (nI z16) z17 z18 z19))]) [0] (by decide) rfl
            have hKc := hK.sub (tys' := []) [] rfl
            have hFc := va_free (wc := [(za, (b13_0 0 z1 (nI z2) (nI z3) z4 z5 z6 z7 z8 z9 (nI z10) z11 z12 z13 z14 z15 (nI z16) z17 z18 z19))]) hD hS hA [0] rfl
            refine va_calli (va_runV (As := [.int 9]) (rest := []) ⟨hx, hb, hml, hown, hg⟩ (m_refused l D H_2.size za 0 z1 (nI z2) (nI z3) z4 z5 z6 z7 z8 z9 (nI z10) z11 z12 z13 z14 z15 (nI z16) z17 z18 z19 9) (cwV 1 hg (gV wd_725 wd_726 wd_727 wd_717 wd_728) rfl rfl rfl (by decide +kernel) ⟨(Nat.le_trans (Nat.le_of_ble_eq_true rfl) hRf), (Nat.le_trans (Nat.le_of_ble_eq_true rfl) hRl)⟩) ⟨Pr.blind, va_recv hK hP (ci := 13) (q0 := 0) rfl rfl, fun U hU hW => ⟨rfl, Pr.at hPc hKc hDc hN hU hW⟩⟩ rfl rfl hl.1 rfl (lv_room (Nat.le_of_ble_eq_true rfl)) dX13_loose_74 ⟨(Nat.le_trans (Nat.le_of_ble_eq_true rfl) hRc), (Nat.le_trans (Nat.le_of_ble_eq_true rfl) hRs)⟩) hS (fun q _ h => hFc q h) hFc (fun r_45 M_46 t H_44 locs ht hvm hw hB hz1 hk1 hS => ?_)
            have hp_47 := hw
            obtain ⟨hP1, hK1, hD1⟩ := hB
            rw [ht] at hP1
            obtain ⟨hP, hD⟩ := va_joinQ (X := [(za, (b13_0 0 z1 (nI z2) (nI z3) z4 z5 z6 z7 z8 z9 (nI z10) z11 z12 z13 z14 z15 (nI z16) z17 z18 z19))]) (cx := [(za, (b13_0 0 z1 (nI z2) (nI z3) z4 z5 z6 z7 z8 z9 (nI z10) z11 z12 z13 z14 z15 (nI z16) z17 z18 z19))]) (wr := []) (w1 := [(za, (b13_0 0 z1 (nI z2) (nI z3) 9 (-1) z6 z7 z8 z9 (nI z10) z11 z12 z13 z14 z15 (nI z16) z17 z18 z19))]) (pl := va_pl L M) hP hD [0] [] rfl rfl (by decide) (by decide) hk1 hFc hP1 hD1
            have hP : va_P D vwCl ([(za, (b13_0 0 z1 (nI z2) (nI z3) 9 (-1) z6 z7 z8 z9 (nI z10) z11 z12 z13 z14 z15 (nI z16) z17 z18 z19))] ++ va_pl L M) H_44 := hP
            have hD : va_D A ([(za, (b13_0 0 z1 (nI z2) (nI z3) 9 (-1) z6 z7 z8 z9 (nI z10) z11 z12 z13 z14 z15 (nI z16) z17 z18 z19))] ++ va_pl L M) := hD
            have hq := Eq.symm hp_47
            subst hq
            rw [hQ]
            exact W.iret (v := (-1)) hx hb hr (fun t ht hW9 => ⟨⟨(-1), M, rfl, ⟨hW, hF, hG, trivial⟩, ⟨9, by rw [ht]; exact hP, hD⟩⟩, hS.F ht⟩) hS.2.2 dX13_loose_77
      · have hz := rfl (a := 0)
        have n_48 : ¬ k2 < 0 := gtN (c := 1000000000) (by omega) (Int32.not_le.mp c_14)
        refine lv_aload_n hx hb dX13_loose_31 rfl (lv_at hl 0 rfl) ?_
        refine lv_iconst (v := 2) hx hb dX13_loose_32 (by decide) ?_
        have hPc := hP.sub (ws' := [(za, (b13_0 0 z1 (nI z2) (nI z3) z4 z5 z6 z7 z8 z9 (nI z10) z11 z12 z13 z14 z15 (nI z16) z17 z18 z19))]) [0] rfl
        have hDc := hD.sub (ws' := [(za, (b13_0 0 z1 (nI z2) (nI z3) z4 z5 z6 z7 z8 z9 (nI z10) z11 z12 z13 z14 z15 (nI z16) z17 z18 z19))]) [0] (by decide) rfl
        have hKc := hK.sub (tys' := []) [] rfl
        have hFc := va_free (wc := [(za, (b13_0 0 z1 (nI z2) (nI z3) z4 z5 z6 z7 z8 z9 (nI z10) z11 z12 z13 z14 z15 (nI z16) z17 z18 z19))]) hD hS hA [0] rfl
        refine va_calli (va_runV (As := [.int 2]) (rest := []) ⟨hx, hb, hml, hown, hg⟩ (m_refused l D H_2.size za 0 z1 (nI z2) (nI z3) z4 z5 z6 z7 z8 z9 (nI z10) z11 z12 z13 z14 z15 (nI z16) z17 z18 z19 2) (cwV 1 hg (gV wd_725 wd_726 wd_727 wd_717 wd_728) rfl rfl rfl (by decide +kernel) ⟨(Nat.le_trans (Nat.le_of_ble_eq_true rfl) hRf), (Nat.le_trans (Nat.le_of_ble_eq_true rfl) hRl)⟩) ⟨Pr.blind, va_recv hK hP (ci := 13) (q0 := 0) rfl rfl, fun U hU hW => ⟨rfl, Pr.at hPc hKc hDc hN hU hW⟩⟩ rfl rfl hl.1 rfl (lv_room (Nat.le_of_ble_eq_true rfl)) dX13_loose_33 ⟨(Nat.le_trans (Nat.le_of_ble_eq_true rfl) hRc), (Nat.le_trans (Nat.le_of_ble_eq_true rfl) hRs)⟩) hS (fun q _ h => hFc q h) hFc (fun r_50 M_51 t H_49 locs ht hvm hw hB hz1 hk1 hS => ?_)
        have hp_52 := hw
        obtain ⟨hP1, hK1, hD1⟩ := hB
        rw [ht] at hP1
        obtain ⟨hP, hD⟩ := va_joinQ (X := [(za, (b13_0 0 z1 (nI z2) (nI z3) z4 z5 z6 z7 z8 z9 (nI z10) z11 z12 z13 z14 z15 (nI z16) z17 z18 z19))]) (cx := [(za, (b13_0 0 z1 (nI z2) (nI z3) z4 z5 z6 z7 z8 z9 (nI z10) z11 z12 z13 z14 z15 (nI z16) z17 z18 z19))]) (wr := []) (w1 := [(za, (b13_0 0 z1 (nI z2) (nI z3) 2 (-1) z6 z7 z8 z9 (nI z10) z11 z12 z13 z14 z15 (nI z16) z17 z18 z19))]) (pl := va_pl L M) hP hD [0] [] rfl rfl (by decide) (by decide) hk1 hFc hP1 hD1
        have hP : va_P D vwCl ([(za, (b13_0 0 z1 (nI z2) (nI z3) 2 (-1) z6 z7 z8 z9 (nI z10) z11 z12 z13 z14 z15 (nI z16) z17 z18 z19))] ++ va_pl L M) H_49 := hP
        have hD : va_D A ([(za, (b13_0 0 z1 (nI z2) (nI z3) 2 (-1) z6 z7 z8 z9 (nI z10) z11 z12 z13 z14 z15 (nI z16) z17 z18 z19))] ++ va_pl L M) := hD
        have hq := Eq.symm hp_52
        subst hq
        rw [hQ]
        exact W.iret (v := (-1)) hx hb hr (fun t ht hW9 => ⟨⟨(-1), M, rfl, ⟨hW, hF, hG, trivial⟩, ⟨2, by rw [ht]; exact hP, hD⟩⟩, hS.F ht⟩) hS.2.2 dX13_loose_36
  · have hz := rfl (a := 0)
    refine lv_if_ne (tgt := 19) hx hb dX13_loose_10 (by decide) (fun c_53 => absurd c_53 (by decide)) (fun _ => ?_)
    refine lv_aload_n hx hb dX13_loose_13 rfl (lv_at hl 0 rfl) ?_
    refine lv_iconst (v := 1) hx hb dX13_loose_14 (by decide) ?_
    have hPc := hP.sub (ws' := [(za, (b13_0 0 z1 (nI z2) (nI z3) z4 z5 z6 z7 z8 z9 (nI z10) z11 z12 z13 z14 z15 (nI z16) z17 z18 z19))]) [0] rfl
    have hDc := hD.sub (ws' := [(za, (b13_0 0 z1 (nI z2) (nI z3) z4 z5 z6 z7 z8 z9 (nI z10) z11 z12 z13 z14 z15 (nI z16) z17 z18 z19))]) [0] (by decide) rfl
    have hKc := hK.sub (tys' := []) [] rfl
    have hFc := va_free (wc := [(za, (b13_0 0 z1 (nI z2) (nI z3) z4 z5 z6 z7 z8 z9 (nI z10) z11 z12 z13 z14 z15 (nI z16) z17 z18 z19))]) hD hS hA [0] rfl
    refine va_calli (va_runV (As := [.int 1]) (rest := []) ⟨hx, hb, hml, hown, hg⟩ (m_refused l D H_2.size za 0 z1 (nI z2) (nI z3) z4 z5 z6 z7 z8 z9 (nI z10) z11 z12 z13 z14 z15 (nI z16) z17 z18 z19 1) (cwV 1 hg (gV wd_725 wd_726 wd_727 wd_717 wd_728) rfl rfl rfl (by decide +kernel) ⟨(Nat.le_trans (Nat.le_of_ble_eq_true rfl) hRf), (Nat.le_trans (Nat.le_of_ble_eq_true rfl) hRl)⟩) ⟨Pr.blind, va_recv hK hP (ci := 13) (q0 := 0) rfl rfl, fun U hU hW => ⟨rfl, Pr.at hPc hKc hDc hN hU hW⟩⟩ rfl rfl hl.1 rfl (lv_room (Nat.le_of_ble_eq_true rfl)) dX13_loose_15 ⟨(Nat.le_trans (Nat.le_of_ble_eq_true rfl) hRc), (Nat.le_trans (Nat.le_of_ble_eq_true rfl) hRs)⟩) hS (fun q _ h => hFc q h) hFc (fun r_55 M_56 t H_54 locs ht hvm hw hB hz1 hk1 hS => ?_)
    have hp_57 := hw
    obtain ⟨hP1, hK1, hD1⟩ := hB
    rw [ht] at hP1
    obtain ⟨hP, hD⟩ := va_joinQ (X := [(za, (b13_0 0 z1 (nI z2) (nI z3) z4 z5 z6 z7 z8 z9 (nI z10) z11 z12 z13 z14 z15 (nI z16) z17 z18 z19))]) (cx := [(za, (b13_0 0 z1 (nI z2) (nI z3) z4 z5 z6 z7 z8 z9 (nI z10) z11 z12 z13 z14 z15 (nI z16) z17 z18 z19))]) (wr := []) (w1 := [(za, (b13_0 0 z1 (nI z2) (nI z3) 1 (-1) z6 z7 z8 z9 (nI z10) z11 z12 z13 z14 z15 (nI z16) z17 z18 z19))]) (pl := va_pl L M) hP hD [0] [] rfl rfl (by decide) (by decide) hk1 hFc hP1 hD1
    have hP : va_P D vwCl ([(za, (b13_0 0 z1 (nI z2) (nI z3) 1 (-1) z6 z7 z8 z9 (nI z10) z11 z12 z13 z14 z15 (nI z16) z17 z18 z19))] ++ va_pl L M) H_54 := hP
    have hD : va_D A ([(za, (b13_0 0 z1 (nI z2) (nI z3) 1 (-1) z6 z7 z8 z9 (nI z10) z11 z12 z13 z14 z15 (nI z16) z17 z18 z19))] ++ va_pl L M) := hD
    have hq := Eq.symm hp_57
    subst hq
    rw [hQ]
    exact W.iret (v := (-1)) hx hb hr (fun t ht hW9 => ⟨⟨(-1), M, rfl, ⟨hW, hF, hG, trivial⟩, ⟨1, by rw [ht]; exact hP, hD⟩⟩, hS.F ht⟩) hS.2.2 dX13_loose_18
