theorem dX7_start_0 : decode cX7_start 0 = .ok (.aload_n 0, 1) := by decide +kernel
theorem dX7_start_1 : decode cX7_start 1 = .ok (.iconst 0, 1) := by decide +kernel
theorem dX7_start_2 : decode cX7_start 2 = .ok (.putfield 30, 3) := by decide +kernel
theorem dX7_start_5 : decode cX7_start 5 = .ok (.return_, 1) := by decide +kernel
theorem dX7_add_0 : decode cX7_add 0 = .ok (.aload_n 0, 1) := by decide +kernel
theorem dX7_add_1 : decode cX7_add 1 = .ok (.getfield 30, 3) := by decide +kernel
theorem dX7_add_4 : decode cX7_add 4 = .ok (.bipush 100, 2) := by decide +kernel
theorem dX7_add_6 : decode cX7_add 6 = .ok (.if_icmp .ge 33, 3) := by decide +kernel
theorem dX7_add_9 : decode cX7_add 9 = .ok (.aload_n 0, 1) := by decide +kernel
theorem dX7_add_10 : decode cX7_add 10 = .ok (.getfield 11, 3) := by decide +kernel
theorem dX7_add_13 : decode cX7_add 13 = .ok (.aload_n 0, 1) := by decide +kernel
theorem dX7_add_14 : decode cX7_add 14 = .ok (.getfield 30, 3) := by decide +kernel
theorem dX7_add_17 : decode cX7_add 17 = .ok (.aload_n 1, 1) := by decide +kernel
theorem dX7_add_18 : decode cX7_add 18 = .ok (.aastore, 1) := by decide +kernel
theorem dX7_add_19 : decode cX7_add 19 = .ok (.aload_n 0, 1) := by decide +kernel
theorem dX7_add_20 : decode cX7_add 20 = .ok (.getfield 17, 3) := by decide +kernel
theorem dX7_add_23 : decode cX7_add 23 = .ok (.aload_n 0, 1) := by decide +kernel
theorem dX7_add_24 : decode cX7_add 24 = .ok (.getfield 30, 3) := by decide +kernel
theorem dX7_add_27 : decode cX7_add 27 = .ok (.lload_n 2, 1) := by decide +kernel
theorem dX7_add_28 : decode cX7_add 28 = .ok (.lastore, 1) := by decide +kernel
theorem dX7_add_29 : decode cX7_add 29 = .ok (.aload_n 0, 1) := by decide +kernel
theorem dX7_add_30 : decode cX7_add 30 = .ok (.dup, 1) := by decide +kernel
theorem dX7_add_31 : decode cX7_add 31 = .ok (.getfield 30, 3) := by decide +kernel
theorem dX7_add_34 : decode cX7_add 34 = .ok (.iconst 1, 1) := by decide +kernel
theorem dX7_add_35 : decode cX7_add 35 = .ok (.iadd, 1) := by decide +kernel
theorem dX7_add_36 : decode cX7_add 36 = .ok (.putfield 30, 3) := by decide +kernel
theorem dX7_add_39 : decode cX7_add 39 = .ok (.return_, 1) := by decide +kernel
theorem dX7_totalWeight_0 : decode cX7_totalWeight 0 = .ok (.lconst 0, 1) := by decide +kernel
theorem dX7_totalWeight_1 : decode cX7_totalWeight 1 = .ok (.lstore_n 1, 1) := by decide +kernel
theorem dX7_totalWeight_2 : decode cX7_totalWeight 2 = .ok (.iconst 0, 1) := by decide +kernel
theorem dX7_totalWeight_3 : decode cX7_totalWeight 3 = .ok (.istore_n 3, 1) := by decide +kernel
theorem dX7_totalWeight_4 : decode cX7_totalWeight 4 = .ok (.iload_n 3, 1) := by decide +kernel
theorem dX7_totalWeight_5 : decode cX7_totalWeight 5 = .ok (.aload_n 0, 1) := by decide +kernel
theorem dX7_totalWeight_6 : decode cX7_totalWeight 6 = .ok (.getfield 30, 3) := by decide +kernel
theorem dX7_totalWeight_9 : decode cX7_totalWeight 9 = .ok (.if_icmp .ge 18, 3) := by decide +kernel
theorem dX7_totalWeight_12 : decode cX7_totalWeight 12 = .ok (.lload_n 1, 1) := by decide +kernel
theorem dX7_totalWeight_13 : decode cX7_totalWeight 13 = .ok (.aload_n 0, 1) := by decide +kernel
theorem dX7_totalWeight_14 : decode cX7_totalWeight 14 = .ok (.getfield 17, 3) := by decide +kernel
theorem dX7_totalWeight_17 : decode cX7_totalWeight 17 = .ok (.iload_n 3, 1) := by decide +kernel
theorem dX7_totalWeight_18 : decode cX7_totalWeight 18 = .ok (.laload, 1) := by decide +kernel
theorem dX7_totalWeight_19 : decode cX7_totalWeight 19 = .ok (.ladd, 1) := by decide +kernel
theorem dX7_totalWeight_20 : decode cX7_totalWeight 20 = .ok (.lstore_n 1, 1) := by decide +kernel
theorem dX7_totalWeight_21 : decode cX7_totalWeight 21 = .ok (.iinc 3 1, 3) := by decide +kernel
theorem dX7_totalWeight_24 : decode cX7_totalWeight 24 = .ok (.goto (-20), 3) := by decide +kernel
theorem dX7_totalWeight_27 : decode cX7_totalWeight 27 = .ok (.lload_n 1, 1) := by decide +kernel
theorem dX7_totalWeight_28 : decode cX7_totalWeight 28 = .ok (.lreturn, 1) := by decide +kernel
theorem dX7_cut_0 : decode cX7_cut 0 = .ok (.aload_n 0, 1) := by decide +kernel
theorem dX7_cut_1 : decode cX7_cut 1 = .ok (.invokevirtual 34, 3) := by decide +kernel
theorem dX7_cut_4 : decode cX7_cut 4 = .ok (.lstore_n 3, 1) := by decide +kernel
theorem dX7_cut_5 : decode cX7_cut 5 = .ok (.lload_n 3, 1) := by decide +kernel
theorem dX7_cut_6 : decode cX7_cut 6 = .ok (.lconst 0, 1) := by decide +kernel
theorem dX7_cut_7 : decode cX7_cut 7 = .ok (.lcmp, 1) := by decide +kernel
theorem dX7_cut_8 : decode cX7_cut 8 = .ok (.ifCond .gt 13, 3) := by decide +kernel
theorem dX7_cut_11 : decode cX7_cut 11 = .ok (.aload_n 0, 1) := by decide +kernel
theorem dX7_cut_12 : decode cX7_cut 12 = .ok (.getfield 21, 3) := by decide +kernel
theorem dX7_cut_15 : decode cX7_cut 15 = .ok (.lconst 0, 1) := by decide +kernel
theorem dX7_cut_16 : decode cX7_cut 16 = .ok (.invokestatic 38, 3) := by decide +kernel
theorem dX7_cut_19 : decode cX7_cut 19 = .ok (.lconst 0, 1) := by decide +kernel
theorem dX7_cut_20 : decode cX7_cut 20 = .ok (.lreturn, 1) := by decide +kernel
theorem dX7_cut_21 : decode cX7_cut 21 = .ok (.lload_n 1, 1) := by decide +kernel
theorem dX7_cut_22 : decode cX7_cut 22 = .ok (.invokestatic 44, 3) := by decide +kernel
theorem dX7_cut_25 : decode cX7_cut 25 = .ok (.lstore 5, 2) := by decide +kernel
theorem dX7_cut_27 : decode cX7_cut 27 = .ok (.lload 5, 2) := by decide +kernel
theorem dX7_cut_29 : decode cX7_cut 29 = .ok (.lstore 7, 2) := by decide +kernel
theorem dX7_cut_31 : decode cX7_cut 31 = .ok (.iconst 0, 1) := by decide +kernel
theorem dX7_cut_32 : decode cX7_cut 32 = .ok (.istore 9, 2) := by decide +kernel
theorem dX7_cut_34 : decode cX7_cut 34 = .ok (.iload 9, 2) := by decide +kernel
theorem dX7_cut_36 : decode cX7_cut 36 = .ok (.aload_n 0, 1) := by decide +kernel
theorem dX7_cut_37 : decode cX7_cut 37 = .ok (.getfield 30, 3) := by decide +kernel
theorem dX7_cut_40 : decode cX7_cut 40 = .ok (.if_icmp .ge 55, 3) := by decide +kernel
theorem dX7_cut_43 : decode cX7_cut 43 = .ok (.lload 5, 2) := by decide +kernel
theorem dX7_cut_45 : decode cX7_cut 45 = .ok (.aload_n 0, 1) := by decide +kernel
theorem dX7_cut_46 : decode cX7_cut 46 = .ok (.getfield 17, 3) := by decide +kernel
theorem dX7_cut_49 : decode cX7_cut 49 = .ok (.iload 9, 2) := by decide +kernel
theorem dX7_cut_51 : decode cX7_cut 51 = .ok (.laload, 1) := by decide +kernel
theorem dX7_cut_52 : decode cX7_cut 52 = .ok (.lmul, 1) := by decide +kernel
theorem dX7_cut_53 : decode cX7_cut 53 = .ok (.lstore 10, 2) := by decide +kernel
theorem dX7_cut_55 : decode cX7_cut 55 = .ok (.aload_n 0, 1) := by decide +kernel
theorem dX7_cut_56 : decode cX7_cut 56 = .ok (.getfield 21, 3) := by decide +kernel
theorem dX7_cut_59 : decode cX7_cut 59 = .ok (.iload 9, 2) := by decide +kernel
theorem dX7_cut_61 : decode cX7_cut 61 = .ok (.lload 10, 2) := by decide +kernel
theorem dX7_cut_63 : decode cX7_cut 63 = .ok (.lload_n 3, 1) := by decide +kernel
theorem dX7_cut_64 : decode cX7_cut 64 = .ok (.ldiv, 1) := by decide +kernel
theorem dX7_cut_65 : decode cX7_cut 65 = .ok (.lastore, 1) := by decide +kernel
theorem dX7_cut_66 : decode cX7_cut 66 = .ok (.aload_n 0, 1) := by decide +kernel
theorem dX7_cut_67 : decode cX7_cut 67 = .ok (.getfield 24, 3) := by decide +kernel
theorem dX7_cut_70 : decode cX7_cut 70 = .ok (.iload 9, 2) := by decide +kernel
theorem dX7_cut_72 : decode cX7_cut 72 = .ok (.lload 10, 2) := by decide +kernel
theorem dX7_cut_74 : decode cX7_cut 74 = .ok (.lload_n 3, 1) := by decide +kernel
theorem dX7_cut_75 : decode cX7_cut 75 = .ok (.lrem, 1) := by decide +kernel
theorem dX7_cut_76 : decode cX7_cut 76 = .ok (.lastore, 1) := by decide +kernel
theorem dX7_cut_77 : decode cX7_cut 77 = .ok (.lload 7, 2) := by decide +kernel
theorem dX7_cut_79 : decode cX7_cut 79 = .ok (.aload_n 0, 1) := by decide +kernel
theorem dX7_cut_80 : decode cX7_cut 80 = .ok (.getfield 21, 3) := by decide +kernel
theorem dX7_cut_83 : decode cX7_cut 83 = .ok (.iload 9, 2) := by decide +kernel
theorem dX7_cut_85 : decode cX7_cut 85 = .ok (.laload, 1) := by decide +kernel
theorem dX7_cut_86 : decode cX7_cut 86 = .ok (.lsub, 1) := by decide +kernel
theorem dX7_cut_87 : decode cX7_cut 87 = .ok (.lstore 7, 2) := by decide +kernel
theorem dX7_cut_89 : decode cX7_cut 89 = .ok (.iinc 9 1, 3) := by decide +kernel
theorem dX7_cut_92 : decode cX7_cut 92 = .ok (.goto (-58), 3) := by decide +kernel
theorem dX7_cut_95 : decode cX7_cut 95 = .ok (.iconst 0, 1) := by decide +kernel
theorem dX7_cut_96 : decode cX7_cut 96 = .ok (.istore 9, 2) := by decide +kernel
theorem dX7_cut_98 : decode cX7_cut 98 = .ok (.iload 9, 2) := by decide +kernel
theorem dX7_cut_100 : decode cX7_cut 100 = .ok (.aload_n 0, 1) := by decide +kernel
theorem dX7_cut_101 : decode cX7_cut 101 = .ok (.getfield 30, 3) := by decide +kernel
theorem dX7_cut_104 : decode cX7_cut 104 = .ok (.if_icmp .ge 22, 3) := by decide +kernel
theorem dX7_cut_107 : decode cX7_cut 107 = .ok (.iload 9, 2) := by decide +kernel
theorem dX7_cut_109 : decode cX7_cut 109 = .ok (.i2l, 1) := by decide +kernel
theorem dX7_cut_110 : decode cX7_cut 110 = .ok (.lload 7, 2) := by decide +kernel
theorem dX7_cut_112 : decode cX7_cut 112 = .ok (.lcmp, 1) := by decide +kernel
theorem dX7_cut_113 : decode cX7_cut 113 = .ok (.ifCond .ge 13, 3) := by decide +kernel
theorem dX7_cut_116 : decode cX7_cut 116 = .ok (.aload_n 0, 1) := by decide +kernel
theorem dX7_cut_117 : decode cX7_cut 117 = .ok (.invokevirtual 50, 3) := by decide +kernel
theorem dX7_cut_120 : decode cX7_cut 120 = .ok (.iinc 9 1, 3) := by decide +kernel
theorem dX7_cut_123 : decode cX7_cut 123 = .ok (.goto (-25), 3) := by decide +kernel
theorem dX7_cut_126 : decode cX7_cut 126 = .ok (.lload_n 1, 1) := by decide +kernel
theorem dX7_cut_127 : decode cX7_cut 127 = .ok (.lconst 0, 1) := by decide +kernel
theorem dX7_cut_128 : decode cX7_cut 128 = .ok (.lcmp, 1) := by decide +kernel
theorem dX7_cut_129 : decode cX7_cut 129 = .ok (.ifCond .ge 36, 3) := by decide +kernel
theorem dX7_cut_132 : decode cX7_cut 132 = .ok (.iconst 0, 1) := by decide +kernel
theorem dX7_cut_133 : decode cX7_cut 133 = .ok (.istore 9, 2) := by decide +kernel
theorem dX7_cut_135 : decode cX7_cut 135 = .ok (.iload 9, 2) := by decide +kernel
theorem dX7_cut_137 : decode cX7_cut 137 = .ok (.aload_n 0, 1) := by decide +kernel
theorem dX7_cut_138 : decode cX7_cut 138 = .ok (.getfield 30, 3) := by decide +kernel
theorem dX7_cut_141 : decode cX7_cut 141 = .ok (.if_icmp .ge 24, 3) := by decide +kernel
theorem dX7_cut_144 : decode cX7_cut 144 = .ok (.aload_n 0, 1) := by decide +kernel
theorem dX7_cut_145 : decode cX7_cut 145 = .ok (.getfield 21, 3) := by decide +kernel
theorem dX7_cut_148 : decode cX7_cut 148 = .ok (.iload 9, 2) := by decide +kernel
theorem dX7_cut_150 : decode cX7_cut 150 = .ok (.aload_n 0, 1) := by decide +kernel
theorem dX7_cut_151 : decode cX7_cut 151 = .ok (.getfield 21, 3) := by decide +kernel
theorem dX7_cut_154 : decode cX7_cut 154 = .ok (.iload 9, 2) := by decide +kernel
theorem dX7_cut_156 : decode cX7_cut 156 = .ok (.laload, 1) := by decide +kernel
theorem dX7_cut_157 : decode cX7_cut 157 = .ok (.lneg, 1) := by decide +kernel
theorem dX7_cut_158 : decode cX7_cut 158 = .ok (.lastore, 1) := by decide +kernel
theorem dX7_cut_159 : decode cX7_cut 159 = .ok (.iinc 9 1, 3) := by decide +kernel
theorem dX7_cut_162 : decode cX7_cut 162 = .ok (.goto (-27), 3) := by decide +kernel
theorem dX7_cut_165 : decode cX7_cut 165 = .ok (.lload_n 1, 1) := by decide +kernel
theorem dX7_cut_166 : decode cX7_cut 166 = .ok (.lreturn, 1) := by decide +kernel
theorem dX7_giveCoin_0 : decode cX7_giveCoin 0 = .ok (.iconst (-1), 1) := by decide +kernel
theorem dX7_giveCoin_1 : decode cX7_giveCoin 1 = .ok (.istore_n 1, 1) := by decide +kernel
theorem dX7_giveCoin_2 : decode cX7_giveCoin 2 = .ok (.iconst 0, 1) := by decide +kernel
theorem dX7_giveCoin_3 : decode cX7_giveCoin 3 = .ok (.istore_n 2, 1) := by decide +kernel
theorem dX7_giveCoin_4 : decode cX7_giveCoin 4 = .ok (.iload_n 2, 1) := by decide +kernel
theorem dX7_giveCoin_5 : decode cX7_giveCoin 5 = .ok (.aload_n 0, 1) := by decide +kernel
theorem dX7_giveCoin_6 : decode cX7_giveCoin 6 = .ok (.getfield 30, 3) := by decide +kernel
theorem dX7_giveCoin_9 : decode cX7_giveCoin 9 = .ok (.if_icmp .ge 32, 3) := by decide +kernel
theorem dX7_giveCoin_12 : decode cX7_giveCoin 12 = .ok (.iload_n 1, 1) := by decide +kernel
theorem dX7_giveCoin_13 : decode cX7_giveCoin 13 = .ok (.iconst (-1), 1) := by decide +kernel
theorem dX7_giveCoin_14 : decode cX7_giveCoin 14 = .ok (.if_icmp .eq 19, 3) := by decide +kernel
theorem dX7_giveCoin_17 : decode cX7_giveCoin 17 = .ok (.aload_n 0, 1) := by decide +kernel
theorem dX7_giveCoin_18 : decode cX7_giveCoin 18 = .ok (.getfield 24, 3) := by decide +kernel
theorem dX7_giveCoin_21 : decode cX7_giveCoin 21 = .ok (.iload_n 2, 1) := by decide +kernel
theorem dX7_giveCoin_22 : decode cX7_giveCoin 22 = .ok (.laload, 1) := by decide +kernel
theorem dX7_giveCoin_23 : decode cX7_giveCoin 23 = .ok (.aload_n 0, 1) := by decide +kernel
theorem dX7_giveCoin_24 : decode cX7_giveCoin 24 = .ok (.getfield 24, 3) := by decide +kernel
theorem dX7_giveCoin_27 : decode cX7_giveCoin 27 = .ok (.iload_n 1, 1) := by decide +kernel
theorem dX7_giveCoin_28 : decode cX7_giveCoin 28 = .ok (.laload, 1) := by decide +kernel
theorem dX7_giveCoin_29 : decode cX7_giveCoin 29 = .ok (.lcmp, 1) := by decide +kernel
theorem dX7_giveCoin_30 : decode cX7_giveCoin 30 = .ok (.ifCond .le 5, 3) := by decide +kernel
theorem dX7_giveCoin_33 : decode cX7_giveCoin 33 = .ok (.iload_n 2, 1) := by decide +kernel
theorem dX7_giveCoin_34 : decode cX7_giveCoin 34 = .ok (.istore_n 1, 1) := by decide +kernel
theorem dX7_giveCoin_35 : decode cX7_giveCoin 35 = .ok (.iinc 2 1, 3) := by decide +kernel
theorem dX7_giveCoin_38 : decode cX7_giveCoin 38 = .ok (.goto (-34), 3) := by decide +kernel
theorem dX7_giveCoin_41 : decode cX7_giveCoin 41 = .ok (.iload_n 1, 1) := by decide +kernel
theorem dX7_giveCoin_42 : decode cX7_giveCoin 42 = .ok (.iconst (-1), 1) := by decide +kernel
theorem dX7_giveCoin_43 : decode cX7_giveCoin 43 = .ok (.if_icmp .eq 22, 3) := by decide +kernel
theorem dX7_giveCoin_46 : decode cX7_giveCoin 46 = .ok (.aload_n 0, 1) := by decide +kernel
theorem dX7_giveCoin_47 : decode cX7_giveCoin 47 = .ok (.getfield 21, 3) := by decide +kernel
theorem dX7_giveCoin_50 : decode cX7_giveCoin 50 = .ok (.iload_n 1, 1) := by decide +kernel
theorem dX7_giveCoin_51 : decode cX7_giveCoin 51 = .ok (.dup2, 1) := by decide +kernel
theorem dX7_giveCoin_52 : decode cX7_giveCoin 52 = .ok (.laload, 1) := by decide +kernel
theorem dX7_giveCoin_53 : decode cX7_giveCoin 53 = .ok (.lconst 1, 1) := by decide +kernel
theorem dX7_giveCoin_54 : decode cX7_giveCoin 54 = .ok (.ladd, 1) := by decide +kernel
theorem dX7_giveCoin_55 : decode cX7_giveCoin 55 = .ok (.lastore, 1) := by decide +kernel
theorem dX7_giveCoin_56 : decode cX7_giveCoin 56 = .ok (.aload_n 0, 1) := by decide +kernel
theorem dX7_giveCoin_57 : decode cX7_giveCoin 57 = .ok (.getfield 24, 3) := by decide +kernel
theorem dX7_giveCoin_60 : decode cX7_giveCoin 60 = .ok (.iload_n 1, 1) := by decide +kernel
theorem dX7_giveCoin_61 : decode cX7_giveCoin 61 = .ok (.ldc2_w 53, 3) := by decide +kernel
theorem dX7_giveCoin_64 : decode cX7_giveCoin 64 = .ok (.lastore, 1) := by decide +kernel
theorem dX7_giveCoin_65 : decode cX7_giveCoin 65 = .ok (.return_, 1) := by decide +kernel
theorem dX7_shareLoss_0 : decode cX7_shareLoss 0 = .ok (.aload_n 0, 1) := by decide +kernel
theorem dX7_shareLoss_1 : decode cX7_shareLoss 1 = .ok (.lload_n 1, 1) := by decide +kernel
theorem dX7_shareLoss_2 : decode cX7_shareLoss 2 = .ok (.invokevirtual 55, 3) := by decide +kernel
theorem dX7_shareLoss_5 : decode cX7_shareLoss 5 = .ok (.pop2, 1) := by decide +kernel
theorem dX7_shareLoss_6 : decode cX7_shareLoss 6 = .ok (.lconst 0, 1) := by decide +kernel
theorem dX7_shareLoss_7 : decode cX7_shareLoss 7 = .ok (.lstore_n 3, 1) := by decide +kernel
theorem dX7_shareLoss_8 : decode cX7_shareLoss 8 = .ok (.iconst 0, 1) := by decide +kernel
theorem dX7_shareLoss_9 : decode cX7_shareLoss 9 = .ok (.istore 5, 2) := by decide +kernel
theorem dX7_shareLoss_11 : decode cX7_shareLoss 11 = .ok (.iload 5, 2) := by decide +kernel
theorem dX7_shareLoss_13 : decode cX7_shareLoss 13 = .ok (.aload_n 0, 1) := by decide +kernel
theorem dX7_shareLoss_14 : decode cX7_shareLoss 14 = .ok (.getfield 30, 3) := by decide +kernel
theorem dX7_shareLoss_17 : decode cX7_shareLoss 17 = .ok (.if_icmp .ge 96, 3) := by decide +kernel
theorem dX7_shareLoss_20 : decode cX7_shareLoss 20 = .ok (.aload_n 0, 1) := by decide +kernel
theorem dX7_shareLoss_21 : decode cX7_shareLoss 21 = .ok (.getfield 11, 3) := by decide +kernel
theorem dX7_shareLoss_24 : decode cX7_shareLoss 24 = .ok (.iload 5, 2) := by decide +kernel
theorem dX7_shareLoss_26 : decode cX7_shareLoss 26 = .ok (.aaload, 1) := by decide +kernel
theorem dX7_shareLoss_27 : decode cX7_shareLoss 27 = .ok (.astore 6, 2) := by decide +kernel
theorem dX7_shareLoss_29 : decode cX7_shareLoss 29 = .ok (.aload_n 0, 1) := by decide +kernel
theorem dX7_shareLoss_30 : decode cX7_shareLoss 30 = .ok (.getfield 27, 3) := by decide +kernel
theorem dX7_shareLoss_33 : decode cX7_shareLoss 33 = .ok (.iload 5, 2) := by decide +kernel
theorem dX7_shareLoss_35 : decode cX7_shareLoss 35 = .ok (.aload_n 0, 1) := by decide +kernel
theorem dX7_shareLoss_36 : decode cX7_shareLoss 36 = .ok (.getfield 21, 3) := by decide +kernel
theorem dX7_shareLoss_39 : decode cX7_shareLoss 39 = .ok (.iload 5, 2) := by decide +kernel
theorem dX7_shareLoss_41 : decode cX7_shareLoss 41 = .ok (.laload, 1) := by decide +kernel
theorem dX7_shareLoss_42 : decode cX7_shareLoss 42 = .ok (.lastore, 1) := by decide +kernel
theorem dX7_shareLoss_43 : decode cX7_shareLoss 43 = .ok (.aload 6, 2) := by decide +kernel
theorem dX7_shareLoss_45 : decode cX7_shareLoss 45 = .ok (.ifnull 62, 3) := by decide +kernel
theorem dX7_shareLoss_48 : decode cX7_shareLoss 48 = .ok (.aload 6, 2) := by decide +kernel
theorem dX7_shareLoss_50 : decode cX7_shareLoss 50 = .ok (.getfield 58, 3) := by decide +kernel
theorem dX7_shareLoss_53 : decode cX7_shareLoss 53 = .ok (.invokevirtual 62, 3) := by decide +kernel
theorem dX7_shareLoss_56 : decode cX7_shareLoss 56 = .ok (.ifCond .eq 51, 3) := by decide +kernel
theorem dX7_shareLoss_59 : decode cX7_shareLoss 59 = .ok (.aload_n 0, 1) := by decide +kernel
theorem dX7_shareLoss_60 : decode cX7_shareLoss 60 = .ok (.getfield 27, 3) := by decide +kernel
theorem dX7_shareLoss_63 : decode cX7_shareLoss 63 = .ok (.iload 5, 2) := by decide +kernel
theorem dX7_shareLoss_65 : decode cX7_shareLoss 65 = .ok (.aload_n 0, 1) := by decide +kernel
theorem dX7_shareLoss_66 : decode cX7_shareLoss 66 = .ok (.getfield 21, 3) := by decide +kernel
theorem dX7_shareLoss_69 : decode cX7_shareLoss 69 = .ok (.iload 5, 2) := by decide +kernel
theorem dX7_shareLoss_71 : decode cX7_shareLoss 71 = .ok (.laload, 1) := by decide +kernel
theorem dX7_shareLoss_72 : decode cX7_shareLoss 72 = .ok (.aload 6, 2) := by decide +kernel
theorem dX7_shareLoss_74 : decode cX7_shareLoss 74 = .ok (.invokevirtual 68, 3) := by decide +kernel
theorem dX7_shareLoss_77 : decode cX7_shareLoss 77 = .ok (.invokestatic 71, 3) := by decide +kernel
theorem dX7_shareLoss_80 : decode cX7_shareLoss 80 = .ok (.lastore, 1) := by decide +kernel
theorem dX7_shareLoss_81 : decode cX7_shareLoss 81 = .ok (.lload_n 3, 1) := by decide +kernel
theorem dX7_shareLoss_82 : decode cX7_shareLoss 82 = .ok (.aload_n 0, 1) := by decide +kernel
theorem dX7_shareLoss_83 : decode cX7_shareLoss 83 = .ok (.getfield 21, 3) := by decide +kernel
theorem dX7_shareLoss_86 : decode cX7_shareLoss 86 = .ok (.iload 5, 2) := by decide +kernel
theorem dX7_shareLoss_88 : decode cX7_shareLoss 88 = .ok (.laload, 1) := by decide +kernel
theorem dX7_shareLoss_89 : decode cX7_shareLoss 89 = .ok (.aload_n 0, 1) := by decide +kernel
theorem dX7_shareLoss_90 : decode cX7_shareLoss 90 = .ok (.getfield 27, 3) := by decide +kernel
theorem dX7_shareLoss_93 : decode cX7_shareLoss 93 = .ok (.iload 5, 2) := by decide +kernel
theorem dX7_shareLoss_95 : decode cX7_shareLoss 95 = .ok (.laload, 1) := by decide +kernel
theorem dX7_shareLoss_96 : decode cX7_shareLoss 96 = .ok (.lsub, 1) := by decide +kernel
theorem dX7_shareLoss_97 : decode cX7_shareLoss 97 = .ok (.ladd, 1) := by decide +kernel
theorem dX7_shareLoss_98 : decode cX7_shareLoss 98 = .ok (.lstore_n 3, 1) := by decide +kernel
theorem dX7_shareLoss_99 : decode cX7_shareLoss 99 = .ok (.aload_n 0, 1) := by decide +kernel
theorem dX7_shareLoss_100 : decode cX7_shareLoss 100 = .ok (.getfield 17, 3) := by decide +kernel
theorem dX7_shareLoss_103 : decode cX7_shareLoss 103 = .ok (.iload 5, 2) := by decide +kernel
theorem dX7_shareLoss_105 : decode cX7_shareLoss 105 = .ok (.lconst 0, 1) := by decide +kernel
theorem dX7_shareLoss_106 : decode cX7_shareLoss 106 = .ok (.lastore, 1) := by decide +kernel
theorem dX7_shareLoss_107 : decode cX7_shareLoss 107 = .ok (.iinc 5 1, 3) := by decide +kernel
theorem dX7_shareLoss_110 : decode cX7_shareLoss 110 = .ok (.goto (-99), 3) := by decide +kernel
theorem dX7_shareLoss_113 : decode cX7_shareLoss 113 = .ok (.aload_n 0, 1) := by decide +kernel
theorem dX7_shareLoss_114 : decode cX7_shareLoss 114 = .ok (.lload_n 3, 1) := by decide +kernel
theorem dX7_shareLoss_115 : decode cX7_shareLoss 115 = .ok (.invokevirtual 55, 3) := by decide +kernel
theorem dX7_shareLoss_118 : decode cX7_shareLoss 118 = .ok (.pop2, 1) := by decide +kernel
theorem dX7_shareLoss_119 : decode cX7_shareLoss 119 = .ok (.lload_n 1, 1) := by decide +kernel
theorem dX7_shareLoss_120 : decode cX7_shareLoss 120 = .ok (.lstore 5, 2) := by decide +kernel
theorem dX7_shareLoss_122 : decode cX7_shareLoss 122 = .ok (.iconst 0, 1) := by decide +kernel
theorem dX7_shareLoss_123 : decode cX7_shareLoss 123 = .ok (.istore 7, 2) := by decide +kernel
theorem dX7_shareLoss_125 : decode cX7_shareLoss 125 = .ok (.iload 7, 2) := by decide +kernel
theorem dX7_shareLoss_127 : decode cX7_shareLoss 127 = .ok (.aload_n 0, 1) := by decide +kernel
theorem dX7_shareLoss_128 : decode cX7_shareLoss 128 = .ok (.getfield 30, 3) := by decide +kernel
theorem dX7_shareLoss_131 : decode cX7_shareLoss 131 = .ok (.if_icmp .ge 38, 3) := by decide +kernel
theorem dX7_shareLoss_134 : decode cX7_shareLoss 134 = .ok (.aload_n 0, 1) := by decide +kernel
theorem dX7_shareLoss_135 : decode cX7_shareLoss 135 = .ok (.getfield 21, 3) := by decide +kernel
theorem dX7_shareLoss_138 : decode cX7_shareLoss 138 = .ok (.iload 7, 2) := by decide +kernel
theorem dX7_shareLoss_140 : decode cX7_shareLoss 140 = .ok (.dup2, 1) := by decide +kernel
theorem dX7_shareLoss_141 : decode cX7_shareLoss 141 = .ok (.laload, 1) := by decide +kernel
theorem dX7_shareLoss_142 : decode cX7_shareLoss 142 = .ok (.aload_n 0, 1) := by decide +kernel
theorem dX7_shareLoss_143 : decode cX7_shareLoss 143 = .ok (.getfield 27, 3) := by decide +kernel
theorem dX7_shareLoss_146 : decode cX7_shareLoss 146 = .ok (.iload 7, 2) := by decide +kernel
theorem dX7_shareLoss_148 : decode cX7_shareLoss 148 = .ok (.laload, 1) := by decide +kernel
theorem dX7_shareLoss_149 : decode cX7_shareLoss 149 = .ok (.ladd, 1) := by decide +kernel
theorem dX7_shareLoss_150 : decode cX7_shareLoss 150 = .ok (.lastore, 1) := by decide +kernel
theorem dX7_shareLoss_151 : decode cX7_shareLoss 151 = .ok (.lload 5, 2) := by decide +kernel
theorem dX7_shareLoss_153 : decode cX7_shareLoss 153 = .ok (.aload_n 0, 1) := by decide +kernel
theorem dX7_shareLoss_154 : decode cX7_shareLoss 154 = .ok (.getfield 21, 3) := by decide +kernel
theorem dX7_shareLoss_157 : decode cX7_shareLoss 157 = .ok (.iload 7, 2) := by decide +kernel
theorem dX7_shareLoss_159 : decode cX7_shareLoss 159 = .ok (.laload, 1) := by decide +kernel
theorem dX7_shareLoss_160 : decode cX7_shareLoss 160 = .ok (.lsub, 1) := by decide +kernel
theorem dX7_shareLoss_161 : decode cX7_shareLoss 161 = .ok (.lstore 5, 2) := by decide +kernel
theorem dX7_shareLoss_163 : decode cX7_shareLoss 163 = .ok (.iinc 7 1, 3) := by decide +kernel
theorem dX7_shareLoss_166 : decode cX7_shareLoss 166 = .ok (.goto (-41), 3) := by decide +kernel
theorem dX7_shareLoss_169 : decode cX7_shareLoss 169 = .ok (.lload 5, 2) := by decide +kernel
theorem dX7_shareLoss_171 : decode cX7_shareLoss 171 = .ok (.lreturn, 1) := by decide +kernel
theorem dX8_begin_0 : decode cX8_begin 0 = .ok (.aload_n 0, 1) := by decide +kernel
theorem dX8_begin_1 : decode cX8_begin 1 = .ok (.iload_n 1, 1) := by decide +kernel
theorem dX8_begin_2 : decode cX8_begin 2 = .ok (.putfield 21, 3) := by decide +kernel
theorem dX8_begin_5 : decode cX8_begin 5 = .ok (.aload_n 0, 1) := by decide +kernel
theorem dX8_begin_6 : decode cX8_begin 6 = .ok (.iconst 0, 1) := by decide +kernel
theorem dX8_begin_7 : decode cX8_begin 7 = .ok (.putfield 25, 3) := by decide +kernel
theorem dX8_begin_10 : decode cX8_begin 10 = .ok (.aload_n 0, 1) := by decide +kernel
theorem dX8_begin_11 : decode cX8_begin 11 = .ok (.lconst 0, 1) := by decide +kernel
theorem dX8_begin_12 : decode cX8_begin 12 = .ok (.putfield 28, 3) := by decide +kernel
theorem dX8_begin_15 : decode cX8_begin 15 = .ok (.aload_n 0, 1) := by decide +kernel
theorem dX8_begin_16 : decode cX8_begin 16 = .ok (.lconst 0, 1) := by decide +kernel
theorem dX8_begin_17 : decode cX8_begin 17 = .ok (.putfield 32, 3) := by decide +kernel
theorem dX8_begin_20 : decode cX8_begin 20 = .ok (.aload_n 0, 1) := by decide +kernel
theorem dX8_begin_21 : decode cX8_begin 21 = .ok (.getfield 17, 3) := by decide +kernel
theorem dX8_begin_24 : decode cX8_begin 24 = .ok (.lconst 0, 1) := by decide +kernel
theorem dX8_begin_25 : decode cX8_begin 25 = .ok (.invokestatic 35, 3) := by decide +kernel
theorem dX8_begin_28 : decode cX8_begin 28 = .ok (.return_, 1) := by decide +kernel
theorem dX8_seatAll_0 : decode cX8_seatAll 0 = .ok (.iconst 0, 1) := by decide +kernel
theorem dX8_seatAll_1 : decode cX8_seatAll 1 = .ok (.istore_n 2, 1) := by decide +kernel
theorem dX8_seatAll_2 : decode cX8_seatAll 2 = .ok (.iload_n 2, 1) := by decide +kernel
theorem dX8_seatAll_3 : decode cX8_seatAll 3 = .ok (.bipush 6, 2) := by decide +kernel
theorem dX8_seatAll_5 : decode cX8_seatAll 5 = .ok (.if_icmp .ge 24, 3) := by decide +kernel
theorem dX8_seatAll_8 : decode cX8_seatAll 8 = .ok (.aload_n 0, 1) := by decide +kernel
theorem dX8_seatAll_9 : decode cX8_seatAll 9 = .ok (.getfield 11, 3) := by decide +kernel
theorem dX8_seatAll_12 : decode cX8_seatAll 12 = .ok (.iload_n 2, 1) := by decide +kernel
theorem dX8_seatAll_13 : decode cX8_seatAll 13 = .ok (.aload_n 1, 1) := by decide +kernel
theorem dX8_seatAll_14 : decode cX8_seatAll 14 = .ok (.iload_n 2, 1) := by decide +kernel
theorem dX8_seatAll_15 : decode cX8_seatAll 15 = .ok (.aload_n 0, 1) := by decide +kernel
theorem dX8_seatAll_16 : decode cX8_seatAll 16 = .ok (.getfield 21, 3) := by decide +kernel
theorem dX8_seatAll_19 : decode cX8_seatAll 19 = .ok (.invokevirtual 41, 3) := by decide +kernel
theorem dX8_seatAll_22 : decode cX8_seatAll 22 = .ok (.aastore, 1) := by decide +kernel
theorem dX8_seatAll_23 : decode cX8_seatAll 23 = .ok (.iinc 2 1, 3) := by decide +kernel
theorem dX8_seatAll_26 : decode cX8_seatAll 26 = .ok (.goto (-24), 3) := by decide +kernel
theorem dX8_seatAll_29 : decode cX8_seatAll 29 = .ok (.return_, 1) := by decide +kernel
theorem dX8_howManyIn_0 : decode cX8_howManyIn 0 = .ok (.iconst 0, 1) := by decide +kernel
theorem dX8_howManyIn_1 : decode cX8_howManyIn 1 = .ok (.istore_n 1, 1) := by decide +kernel
theorem dX8_howManyIn_2 : decode cX8_howManyIn 2 = .ok (.iconst 0, 1) := by decide +kernel
theorem dX8_howManyIn_3 : decode cX8_howManyIn 3 = .ok (.istore_n 2, 1) := by decide +kernel
theorem dX8_howManyIn_4 : decode cX8_howManyIn 4 = .ok (.iload_n 2, 1) := by decide +kernel
theorem dX8_howManyIn_5 : decode cX8_howManyIn 5 = .ok (.bipush 6, 2) := by decide +kernel
theorem dX8_howManyIn_7 : decode cX8_howManyIn 7 = .ok (.if_icmp .ge 26, 3) := by decide +kernel
theorem dX8_howManyIn_10 : decode cX8_howManyIn 10 = .ok (.iload_n 1, 1) := by decide +kernel
theorem dX8_howManyIn_11 : decode cX8_howManyIn 11 = .ok (.aload_n 0, 1) := by decide +kernel
theorem dX8_howManyIn_12 : decode cX8_howManyIn 12 = .ok (.getfield 11, 3) := by decide +kernel
theorem dX8_howManyIn_15 : decode cX8_howManyIn 15 = .ok (.iload_n 2, 1) := by decide +kernel
theorem dX8_howManyIn_16 : decode cX8_howManyIn 16 = .ok (.aaload, 1) := by decide +kernel
theorem dX8_howManyIn_17 : decode cX8_howManyIn 17 = .ok (.ifnonnull 7, 3) := by decide +kernel
theorem dX8_howManyIn_20 : decode cX8_howManyIn 20 = .ok (.iconst 0, 1) := by decide +kernel
theorem dX8_howManyIn_21 : decode cX8_howManyIn 21 = .ok (.goto 4, 3) := by decide +kernel
theorem dX8_howManyIn_24 : decode cX8_howManyIn 24 = .ok (.iconst 1, 1) := by decide +kernel
theorem dX8_howManyIn_25 : decode cX8_howManyIn 25 = .ok (.iadd, 1) := by decide +kernel
theorem dX8_howManyIn_26 : decode cX8_howManyIn 26 = .ok (.istore_n 1, 1) := by decide +kernel
theorem dX8_howManyIn_27 : decode cX8_howManyIn 27 = .ok (.iinc 2 1, 3) := by decide +kernel
theorem dX8_howManyIn_30 : decode cX8_howManyIn 30 = .ok (.goto (-26), 3) := by decide +kernel
theorem dX8_howManyIn_33 : decode cX8_howManyIn 33 = .ok (.iload_n 1, 1) := by decide +kernel
theorem dX8_howManyIn_34 : decode cX8_howManyIn 34 = .ok (.ireturn, 1) := by decide +kernel
theorem dX8_allDues_0 : decode cX8_allDues 0 = .ok (.lconst 0, 1) := by decide +kernel
theorem dX8_allDues_1 : decode cX8_allDues 1 = .ok (.lstore_n 1, 1) := by decide +kernel
theorem dX8_allDues_2 : decode cX8_allDues 2 = .ok (.iconst 0, 1) := by decide +kernel
theorem dX8_allDues_3 : decode cX8_allDues 3 = .ok (.istore_n 3, 1) := by decide +kernel
theorem dX8_allDues_4 : decode cX8_allDues 4 = .ok (.iload_n 3, 1) := by decide +kernel
theorem dX8_allDues_5 : decode cX8_allDues 5 = .ok (.bipush 6, 2) := by decide +kernel
theorem dX8_allDues_7 : decode cX8_allDues 7 = .ok (.if_icmp .ge 18, 3) := by decide +kernel
theorem dX8_allDues_10 : decode cX8_allDues 10 = .ok (.lload_n 1, 1) := by decide +kernel
theorem dX8_allDues_11 : decode cX8_allDues 11 = .ok (.aload_n 0, 1) := by decide +kernel
theorem dX8_allDues_12 : decode cX8_allDues 12 = .ok (.getfield 17, 3) := by decide +kernel
theorem dX8_allDues_15 : decode cX8_allDues 15 = .ok (.iload_n 3, 1) := by decide +kernel
theorem dX8_allDues_16 : decode cX8_allDues 16 = .ok (.laload, 1) := by decide +kernel
theorem dX8_allDues_17 : decode cX8_allDues 17 = .ok (.ladd, 1) := by decide +kernel
theorem dX8_allDues_18 : decode cX8_allDues 18 = .ok (.lstore_n 1, 1) := by decide +kernel
theorem dX8_allDues_19 : decode cX8_allDues 19 = .ok (.iinc 3 1, 3) := by decide +kernel
theorem dX8_allDues_22 : decode cX8_allDues 22 = .ok (.goto (-18), 3) := by decide +kernel
theorem dX8_allDues_25 : decode cX8_allDues 25 = .ok (.lload_n 1, 1) := by decide +kernel
theorem dX8_allDues_26 : decode cX8_allDues 26 = .ok (.lreturn, 1) := by decide +kernel
theorem dX8_dueOf_0 : decode cX8_dueOf 0 = .ok (.aload_n 1, 1) := by decide +kernel
theorem dX8_dueOf_1 : decode cX8_dueOf 1 = .ok (.getfield 47, 3) := by decide +kernel
theorem dX8_dueOf_4 : decode cX8_dueOf 4 = .ok (.invokestatic 50, 3) := by decide +kernel
theorem dX8_dueOf_7 : decode cX8_dueOf 7 = .ok (.ifCond .eq 28, 3) := by decide +kernel
theorem dX8_dueOf_10 : decode cX8_dueOf 10 = .ok (.aload_n 0, 1) := by decide +kernel
theorem dX8_dueOf_11 : decode cX8_dueOf 11 = .ok (.getfield 11, 3) := by decide +kernel
theorem dX8_dueOf_14 : decode cX8_dueOf 14 = .ok (.aload_n 1, 1) := by decide +kernel
theorem dX8_dueOf_15 : decode cX8_dueOf 15 = .ok (.getfield 47, 3) := by decide +kernel
theorem dX8_dueOf_18 : decode cX8_dueOf 18 = .ok (.aaload, 1) := by decide +kernel
theorem dX8_dueOf_19 : decode cX8_dueOf 19 = .ok (.aload_n 1, 1) := by decide +kernel
theorem dX8_dueOf_20 : decode cX8_dueOf 20 = .ok (.if_acmp .ne 15, 3) := by decide +kernel
theorem dX8_dueOf_23 : decode cX8_dueOf 23 = .ok (.aload_n 0, 1) := by decide +kernel
theorem dX8_dueOf_24 : decode cX8_dueOf 24 = .ok (.getfield 17, 3) := by decide +kernel
theorem dX8_dueOf_27 : decode cX8_dueOf 27 = .ok (.aload_n 1, 1) := by decide +kernel
theorem dX8_dueOf_28 : decode cX8_dueOf 28 = .ok (.getfield 47, 3) := by decide +kernel
theorem dX8_dueOf_31 : decode cX8_dueOf 31 = .ok (.laload, 1) := by decide +kernel
theorem dX8_dueOf_32 : decode cX8_dueOf 32 = .ok (.goto 4, 3) := by decide +kernel
theorem dX8_dueOf_35 : decode cX8_dueOf 35 = .ok (.lconst 0, 1) := by decide +kernel
theorem dX8_dueOf_36 : decode cX8_dueOf 36 = .ok (.lreturn, 1) := by decide +kernel
theorem dX8_factOf_0 : decode cX8_factOf 0 = .ok (.iload_n 1, 1) := by decide +kernel
theorem dX8_factOf_1 : decode cX8_factOf 1 = .ok (.tableswitch 72 0 5 #[39, 45, 51, 56, 61, 66], 39) := by decide +kernel
theorem dX8_factOf_40 : decode cX8_factOf 40 = .ok (.aload_n 0, 1) := by decide +kernel
theorem dX8_factOf_41 : decode cX8_factOf 41 = .ok (.getfield 21, 3) := by decide +kernel
theorem dX8_factOf_44 : decode cX8_factOf 44 = .ok (.i2l, 1) := by decide +kernel
theorem dX8_factOf_45 : decode cX8_factOf 45 = .ok (.lreturn, 1) := by decide +kernel
theorem dX8_factOf_46 : decode cX8_factOf 46 = .ok (.aload_n 0, 1) := by decide +kernel
theorem dX8_factOf_47 : decode cX8_factOf 47 = .ok (.getfield 25, 3) := by decide +kernel
theorem dX8_factOf_50 : decode cX8_factOf 50 = .ok (.i2l, 1) := by decide +kernel
theorem dX8_factOf_51 : decode cX8_factOf 51 = .ok (.lreturn, 1) := by decide +kernel
theorem dX8_factOf_52 : decode cX8_factOf 52 = .ok (.aload_n 0, 1) := by decide +kernel
theorem dX8_factOf_53 : decode cX8_factOf 53 = .ok (.getfield 28, 3) := by decide +kernel
theorem dX8_factOf_56 : decode cX8_factOf 56 = .ok (.lreturn, 1) := by decide +kernel
theorem dX8_factOf_57 : decode cX8_factOf 57 = .ok (.aload_n 0, 1) := by decide +kernel
theorem dX8_factOf_58 : decode cX8_factOf 58 = .ok (.getfield 32, 3) := by decide +kernel
theorem dX8_factOf_61 : decode cX8_factOf 61 = .ok (.lreturn, 1) := by decide +kernel
theorem dX8_factOf_62 : decode cX8_factOf 62 = .ok (.aload_n 0, 1) := by decide +kernel
theorem dX8_factOf_63 : decode cX8_factOf 63 = .ok (.invokevirtual 54, 3) := by decide +kernel
theorem dX8_factOf_66 : decode cX8_factOf 66 = .ok (.lreturn, 1) := by decide +kernel
theorem dX8_factOf_67 : decode cX8_factOf 67 = .ok (.aload_n 0, 1) := by decide +kernel
theorem dX8_factOf_68 : decode cX8_factOf 68 = .ok (.invokevirtual 58, 3) := by decide +kernel
theorem dX8_factOf_71 : decode cX8_factOf 71 = .ok (.i2l, 1) := by decide +kernel
theorem dX8_factOf_72 : decode cX8_factOf 72 = .ok (.lreturn, 1) := by decide +kernel
theorem dX8_factOf_73 : decode cX8_factOf 73 = .ok (.lconst 0, 1) := by decide +kernel
theorem dX8_factOf_74 : decode cX8_factOf 74 = .ok (.lreturn, 1) := by decide +kernel
theorem wd_139 : Cond.fieldLink RX7 30 RX7 "count" "I" ∈ lw_good := mem_t1 46 (by decide +kernel) rfl
theorem wd_140 : Cond.fieldLink RX7 11 RX7 "tenures" "[LPartnersBook$Tenure;" ∈ lw_good := mem_t1 38 (by decide +kernel) rfl
theorem wd_141 : Cond.fieldLink RX7 17 RX7 "weights" "[J" ∈ lw_good := mem_t1 40 (by decide +kernel) rfl
theorem wd_142 : Cond.fieldLink RX7 21 RX7 "parts" "[J" ∈ lw_good := mem_t1 41 (by decide +kernel) rfl
theorem wd_143 : Cond.fieldLink RX7 24 RX7 "rests" "[J" ∈ lw_good := mem_t1 44 (by decide +kernel) rfl
theorem wd_144 : Cond.constantLong RX7 53 (-1) ∈ lw_good := mem_t4 93 (by decide +kernel) rfl
theorem wd_145 : Cond.methodLink RX7 34 yX7_totalWeight ∈ lw_good := mem_t4 83 (by decide +kernel) rfl
theorem wd_146 : Cond.instanceMethod yX7_totalWeight ∈ lw_good := mem_t4 84 (by decide +kernel) rfl
theorem wd_147 : Cond.selects RX7 yX7_totalWeight yX7_totalWeight ∈ lw_good := mem_t4 85 (by decide +kernel) rfl
theorem wd_148 : Cond.initialized RX7 ∈ lw_good := mem_t1 2 (by decide +kernel) rfl
theorem wd_149 : Cond.code yX7_totalWeight cX7_totalWeight 4 (some .long) ∈ lw_good := mem_t4 86 rfl rfl
theorem wd_150 : Cond.methodLink RX7 44 Lib.MathLoose.abs_long.x ∈ lw_good := mem_t4 88 (by decide +kernel) rfl
theorem wd_151 : Cond.static Lib.MathLoose.abs_long.x ∈ lw_good := mem_t3 157 (by decide +kernel) rfl
theorem wd_152 : Cond.code Lib.MathLoose.abs_long.x Lib.MathLoose.abs_long.code 2 (some .long) ∈ lw_good := mem_t3 158 (by decide +kernel) rfl
theorem wd_153 : Cond.methodLink RX7 50 yX7_giveCoin ∈ lw_good := mem_t4 89 (by decide +kernel) rfl
theorem wd_154 : Cond.instanceMethod yX7_giveCoin ∈ lw_good := mem_t4 91 (by decide +kernel) rfl
theorem wd_155 : Cond.selects RX7 yX7_giveCoin yX7_giveCoin ∈ lw_good := mem_p 12 (by decide +kernel) rfl
theorem wd_156 : Cond.code yX7_giveCoin cX7_giveCoin 3 none ∈ lw_good := mem_t4 92 rfl rfl
theorem wd_157 : Cond.methodLink RX7 38 yJ7_fill_d0a16 ∈ lw_good := mem_t4 87 (by decide +kernel) rfl
theorem wd_158 : Cond.static yJ7_fill_d0a16 ∈ lw_good := mem_t4 53 (by decide +kernel) rfl
theorem wd_159 : Cond.initialized "java/util/Arrays" ∈ lw_good := mem_t1 12 (by decide +kernel) rfl
theorem wd_160 : Cond.code yJ7_fill_d0a16 cJ7_fill_d0a16 5 none ∈ lw_good := mem_t4 54 rfl rfl
theorem wd_161 : Cond.methodLink RX7 55 yX7_cut ∈ lw_good := mem_t4 155 (by decide +kernel) rfl
theorem wd_162 : Cond.instanceMethod yX7_cut ∈ lw_good := mem_t4 80 (by decide +kernel) rfl
theorem wd_163 : Cond.selects RX7 yX7_cut yX7_cut ∈ lw_good := mem_t4 81 (by decide +kernel) rfl
theorem wd_164 : Cond.code yX7_cut cX7_cut 12 (some .long) ∈ lw_good := mem_t4 82 rfl rfl
theorem wd_165 : Cond.fieldLink RX7 27 RX7 "kept" "[J" ∈ lw_good := mem_t1 45 (by decide +kernel) rfl
theorem wd_166 : Cond.fieldLink RX7 58 RX9 "partner" "LPartnersBook$Partner;" ∈ lw_good := mem_t2 189 (by decide +kernel) rfl
theorem wd_167 : Cond.methodLink RX7 62 yX4_isLimited ∈ lw_good := mem_t4 156 (by decide +kernel) rfl
theorem wd_168 : Cond.instanceMethod yX4_isLimited ∈ lw_good := mem_t4 157 (by decide +kernel) rfl
theorem wd_169 : Cond.selects RX4 yX4_isLimited yX4_isLimited ∈ lw_good := mem_t4 158 (by decide +kernel) rfl
theorem wd_170 : Cond.code yX4_isLimited cX4_isLimited 1 (some .boolean) ∈ lw_good := mem_t4 159 rfl rfl
theorem wd_171 : Cond.methodLink RX7 68 yX9_room ∈ lw_good := mem_t4 161 (by decide +kernel) rfl
theorem wd_172 : Cond.instanceMethod yX9_room ∈ lw_good := mem_t4 162 (by decide +kernel) rfl
theorem wd_173 : Cond.selects RX9 yX9_room yX9_room ∈ lw_good := mem_t4 163 (by decide +kernel) rfl
theorem wd_174 : Cond.code yX9_room cX9_room 1 (some .long) ∈ lw_good := mem_t4 164 rfl rfl
theorem wd_175 : Cond.methodLink RX7 71 Lib.MathLoose.min_long.x ∈ lw_good := mem_t4 166 (by decide +kernel) rfl
theorem wd_176 : Cond.static Lib.MathLoose.min_long.x ∈ lw_good := mem_t4 137 (by decide +kernel) rfl
theorem wd_177 : Cond.code Lib.MathLoose.min_long.x Lib.MathLoose.min_long.code 4 (some .long) ∈ lw_good := mem_t4 138 (by decide +kernel) rfl
theorem wd_178 : Cond.fieldLink RX8 21 RX8 "firstDay" "I" ∈ lw_good := mem_t4 27 (by decide +kernel) rfl
theorem wd_179 : Cond.fieldLink RX8 25 RX8 "days" "I" ∈ lw_good := mem_t4 29 (by decide +kernel) rfl
theorem wd_180 : Cond.fieldLink RX8 28 RX8 "result" "J" ∈ lw_good := mem_t4 31 (by decide +kernel) rfl
theorem wd_181 : Cond.fieldLink RX8 32 RX8 "nobody" "J" ∈ lw_good := mem_t4 33 (by decide +kernel) rfl
theorem wd_182 : Cond.fieldLink RX8 17 RX8 "dues" "[J" ∈ lw_good := mem_t4 25 (by decide +kernel) rfl
theorem wd_183 : Cond.methodLink RX8 35 yJ7_fill_d0a16 ∈ lw_good := mem_t4 52 (by decide +kernel) rfl
theorem wd_184 : Cond.fieldLink RX8 11 RX8 "tenures" "[LPartnersBook$Tenure;" ∈ lw_good := mem_t4 23 (by decide +kernel) rfl
theorem wd_185 : Cond.methodLink RX8 41 yX2_tenureIn ∈ lw_good := mem_t4 106 (by decide +kernel) rfl
theorem wd_186 : Cond.instanceMethod yX2_tenureIn ∈ lw_good := mem_t4 107 (by decide +kernel) rfl
theorem wd_187 : Cond.selects RX2 yX2_tenureIn yX2_tenureIn ∈ lw_good := mem_t4 108 (by decide +kernel) rfl
theorem wd_188 : Cond.code yX2_tenureIn cX2_tenureIn 5 (some (.object "PartnersBook$Tenure")) ∈ lw_good := mem_t4 109 rfl rfl
theorem wd_189 : Cond.fieldLink RX8 47 RX9 "seat" "I" ∈ lw_good := mem_t2 194 (by decide +kernel) rfl
theorem wd_190 : Cond.methodLink RX8 54 yX8_allDues ∈ lw_good := mem_t5 40 (by decide +kernel) rfl
theorem wd_191 : Cond.instanceMethod yX8_allDues ∈ lw_good := mem_t5 41 (by decide +kernel) rfl
theorem wd_192 : Cond.selects RX8 yX8_allDues yX8_allDues ∈ lw_good := mem_t5 42 (by decide +kernel) rfl
theorem wd_193 : Cond.initialized RX8 ∈ lw_good := mem_t1 17 (by decide +kernel) rfl
theorem wd_194 : Cond.code yX8_allDues cX8_allDues 4 (some .long) ∈ lw_good := mem_t5 43 rfl rfl
theorem wd_195 : Cond.methodLink RX8 58 yX8_howManyIn ∈ lw_good := mem_t5 44 (by decide +kernel) rfl
theorem wd_196 : Cond.instanceMethod yX8_howManyIn ∈ lw_good := mem_t5 45 (by decide +kernel) rfl
theorem wd_197 : Cond.selects RX8 yX8_howManyIn yX8_howManyIn ∈ lw_good := mem_t5 46 (by decide +kernel) rfl
theorem wd_198 : Cond.code yX8_howManyIn cX8_howManyIn 3 (some .int) ∈ lw_good := mem_t5 47 rfl rfl
set_option maxHeartbeats 4000000 in
set_option maxRecDepth 100000 in
theorem s_X7_start (l : Launch) (D : va_G) (cy : Nat → ClassId) (K : Kp) (L : List Nat) (M : Hp) (sz : Nat) (oa : Nat) (hW : WOK cy K L M) (ia : isk K L oa 7 0) : Met l yX7_start (wsM yX7_start cX7_start 1 none) ({ frames := 0, cells := 0, slots := 0, locals := 0 }) (va_Pc [.ref oa] (PG D cy [] L M sz)) (va_Qv (fun (M9 : Hp) => WOK cy K L M9 ∧ fr K L [7] M M9 ∧ (True)) (fun M9 t => PQ D [] L M9 (va_A ([] ++ va_pl L M) sz) t) (va_A ([] ++ va_pl L M) sz)) 0 0 (va_A ([] ++ va_pl L M) sz) := by
  refine Met.ofW (cc := cX7_start) (maxL := 1) (ret := none) (by decide) rfl ?_
  intro p e s m args below meth c s₁ B hml hv
  obtain ⟨rfl, hsz, hP, hK, hD0, hN⟩ := hv
  have hx := B.exec
  have hb := B.bytes
  have hr := B.returns
  have hts := atoms_spec (ws := (wsM yX7_start cX7_start 1 none)) B.pre
  have hg : ∀ w ∈ lw_good, w.before _ s = true := fun w h => hts w (List.mem_cons_of_mem _ h)
  have hown : s.vm.findClass RX7 = some m.cls := findClass_of_methodNamed B.named
  have hlocks := B.notSynchronized
  subst hsz
  have hD := hD0.self (sz := s.heap.size)
  generalize hAe : va_A ([] ++ va_pl L M) s.heap.size = A at hD ⊢
  have hA : ∀ q : Nat, s.heap.size ≤ q → A q := fun q h => by rw [← hAe]; exact Or.inr h
  have hS : va_S A s.heap s.heap [] := va_S.rf
  have hl := lv_entry ([.ref oa]) (n := 1) (Nat.le_of_ble_eq_true rfl)
  rw [lg_entry_eq]
  generalize (lg_sl ([.ref oa]) ++ List.replicate (1 - (lg_sl ([.ref oa])).length) Slot.unset).toArray = ls at hl ⊢
  refine W.nameQ (fun Q hQ => ?_)
  refine W.nameR (fun R hR => ?_)
  have hRf : 0 ≤ R.frames := by rw [hR]; exact Nat.le_of_ble_eq_true rfl
  have hRl : 0 ≤ R.locals := by rw [hR]; exact Nat.le_of_ble_eq_true rfl
  have hRc : 0 ≤ R.cells := by rw [hR]; exact Nat.le_of_ble_eq_true rfl
  have hRs : 0 ≤ R.slots := by rw [hR]; exact Nat.le_of_ble_eq_true rfl
  have hF : fr K L [7] M M := fr.rf
  have hl : lv_has ls 1 [(0, .ref oa)] := hl
  refine lv_aload_n hx hb dX7_start_0 rfl (lv_at hl 0 rfl) ?_
  refine lv_iconst (v := 0) hx hb dX7_start_1 (by decide) ?_
  obtain ⟨v2_0, v2_1, v2_2, v2_3, v2_4, v2_5, hM2, h2_0, h2_1, h2_2, h2_3, h2_4, h2_5⟩ := hW.open_7 ia
  refine pg_put (D := D) (ci := 7) (v := .int 0) (ty := .int) (C := RX7) (T := TX7) (N := 6) hx hb hg inG7 tyX7 tyX7_ok nmX7 hown hK hP hD hS ia.1 hM2 rfl 5 (by decide) (hg _ wd_139) (fun _ h9 => h9) rfl (by decide +kernel) rfl rfl (Nat.le_of_ble_eq_true rfl) dX7_start_2 (fun H_1 locs hP hD hS => ?_)
  obtain ⟨M_3, eM_3⟩ : ∃ M1 : Hp, M1 = va_up M oa ((b7_8 v2_0 v2_1 v2_2 v2_3 v2_4 (nI 0))) := ⟨_, rfl⟩
  have hP : va_P D vwCl ([] ++ va_pl L M_3) H_1 := by rw [eM_3]; exact hP
  have hD : va_D A ([] ++ va_pl L M_3) := by rw [eM_3]; exact hD
  have hW : WOK cy K L M_3 := by rw [eM_3]; exact hW.up_7 ia ⟨v2_0, v2_1, v2_2, v2_3, v2_4, 0, rfl, h2_0, h2_1, h2_2, h2_3, h2_4, (by omega)⟩
  have hF : fr K L [7] M M_3 := by rw [eM_3]; exact hF.up ia (by decide)
  have hM_4 : M_3 oa = (b7_8 v2_0 v2_1 v2_2 v2_3 v2_4 (nI 0)) := by rw [eM_3]; exact va_up_self _ _ _
  have hb_5 : 0 ≤ 100 := by omega
  rw [hQ]
  exact W.vret hx hb hr (fun t ht hW9 => ⟨⟨M_3, rfl, ⟨hW, hF, trivial⟩, ⟨by rw [ht]; exact hP, hD⟩⟩, hS.F ht⟩) hS.2.2 dX7_start_5
set_option maxHeartbeats 4000000 in
set_option maxRecDepth 100000 in
theorem s_X7_add_n (l : Launch) (D : va_G) (cy : Nat → ClassId) (K : Kp) (L : List Nat) (M : Hp) (sz : Nat) (oa : Nat) (k2 : Int64) (hW : WOK cy K L M) (ia : isk K L oa 7 0) : Met l yX7_add (wsM yX7_add cX7_add 4 none) ({ frames := 0, cells := 0, slots := 0, locals := 0 }) (va_Pc [.ref oa, .null, .long k2] (PG D cy [] L M sz)) (va_Qv (fun (M9 : Hp) => WOK cy K L M9 ∧ fr K L [7, 64, 68] M M9 ∧ (True)) (fun M9 t => PQ D [] L M9 (va_A ([] ++ va_pl L M) sz) t) (va_A ([] ++ va_pl L M) sz)) 0 0 (va_A ([] ++ va_pl L M) sz) := by
  refine Met.ofW (cc := cX7_add) (maxL := 4) (ret := none) (by decide) rfl ?_
  intro p e s m args below meth c s₁ B hml hv
  obtain ⟨rfl, hsz, hP, hK, hD0, hN⟩ := hv
  have hx := B.exec
  have hb := B.bytes
  have hr := B.returns
  have hts := atoms_spec (ws := (wsM yX7_add cX7_add 4 none)) B.pre
  have hg : ∀ w ∈ lw_good, w.before _ s = true := fun w h => hts w (List.mem_cons_of_mem _ h)
  have hown : s.vm.findClass RX7 = some m.cls := findClass_of_methodNamed B.named
  have hlocks := B.notSynchronized
  subst hsz
  have hD := hD0.self (sz := s.heap.size)
  generalize hAe : va_A ([] ++ va_pl L M) s.heap.size = A at hD ⊢
  have hA : ∀ q : Nat, s.heap.size ≤ q → A q := fun q h => by rw [← hAe]; exact Or.inr h
  have hS : va_S A s.heap s.heap [] := va_S.rf
  have hl := lv_entry ([.ref oa, .null, .long k2]) (n := 4) (Nat.le_of_ble_eq_true rfl)
  rw [lg_entry_eq]
  generalize (lg_sl ([.ref oa, .null, .long k2]) ++ List.replicate (4 - (lg_sl ([.ref oa, .null, .long k2])).length) Slot.unset).toArray = ls at hl ⊢
  refine W.nameQ (fun Q hQ => ?_)
  refine W.nameR (fun R hR => ?_)
  have hRf : 0 ≤ R.frames := by rw [hR]; exact Nat.le_of_ble_eq_true rfl
  have hRl : 0 ≤ R.locals := by rw [hR]; exact Nat.le_of_ble_eq_true rfl
  have hRc : 0 ≤ R.cells := by rw [hR]; exact Nat.le_of_ble_eq_true rfl
  have hRs : 0 ≤ R.slots := by rw [hR]; exact Nat.le_of_ble_eq_true rfl
  have hF : fr K L [7, 64, 68] M M := fr.rf
  have hl : lv_has ls 4 [(0, .ref oa), (1, .null), (2, .long k2)] := hl
  refine lv_aload_n hx hb dX7_add_0 rfl (lv_at hl 0 rfl) ?_
  obtain ⟨v1_0, v1_1, v1_2, v1_3, v1_4, v1_5, hM1, h1_0, h1_1, h1_2, h1_3, h1_4, h1_5⟩ := hW.open_7 ia
  refine pg_get (D := D) (ci := 7) (v := .int (nI v1_5)) (C := RX7) (T := TX7) (N := 6) hx hb hg inG7 hown hK hP ia.1 hM1 rfl 5 (by decide) (hg _ wd_139) (fun _ h9 => h9) rfl dX7_add_1 ?_
  refine lv_bipush (v := 100) hx hb dX7_add_4 (by decide) ?_
  refine lv_icmp_ge (tgt := 39) hx hb dX7_add_6 (by decide) (fun c_2 => ?_) (fun c_2 => ?_)
  · have hz := rfl (a := 0)
    have n_3 : 100 ≤ v1_5 := (iLE (a := 100) (b := v1_5) (by omega) (by omega)).mp c_2
    rw [hQ]
    exact W.vret hx hb hr (fun t ht hW9 => ⟨⟨M, rfl, ⟨hW, hF, trivial⟩, ⟨by rw [ht]; exact hP, hD⟩⟩, hS.F ht⟩) hS.2.2 dX7_add_39
  · have hz := rfl (a := 0)
    have n_4 : ¬ (100 ≤ v1_5) := fun q => c_2 ((iLE (a := 100) (b := v1_5) (by omega) (by omega)).mpr q)
    refine lv_aload_n hx hb dX7_add_9 rfl (lv_at hl 0 rfl) ?_
    refine pg_get (D := D) (ci := 7) (v := .ref v1_0) (C := RX7) (T := TX7) (N := 6) hx hb hg inG7 hown hK hP ia.1 hM1 rfl 0 (by decide) (hg _ wd_140) (fun _ h9 => h9) rfl dX7_add_10 ?_
    refine lv_aload_n hx hb dX7_add_13 rfl (lv_at hl 0 rfl) ?_
    refine pg_get (D := D) (ci := 7) (v := .int (nI v1_5)) (C := RX7) (T := TX7) (N := 6) hx hb hg inG7 hown hK hP ia.1 hM1 rfl 5 (by decide) (hg _ wd_139) (fun _ h9 => h9) rfl dX7_add_14 ?_
    refine lv_aload_nN hx hb dX7_add_17 rfl (lv_at hl 1 rfl) ?_
    obtain ⟨f5, hM5, hf5⟩ := hW.open_64 h1_0
    refine pg_astqN hx hb hK hP hD hS h1_0.1 8 hM5 rfl (inbN v1_5 100 (by omega) (by omega)) dX7_add_18 (fun H_6 locs hP hD hS => ?_)
    obtain ⟨M_7, eM_7⟩ : ∃ M1 : Hp, M1 = va_up M v1_0 (.inl (cy 22, 100, .inr (.inr (.inr (.inr (va_up f5 ((nI v1_5) : Int32).toNatClampNeg none)))))) := ⟨_, rfl⟩
    have hP : va_P D vwCl ([] ++ va_pl L M_7) H_6 := by rw [eM_7]; exact hP
    have hD : va_D A ([] ++ va_pl L M_7) := by rw [eM_7]; exact hD
    have hW : WOK cy K L M_7 := by rw [eM_7]; exact hW.up_64 h1_0 ⟨_, rfl, (upN0 hf5)⟩
    have hF : fr K L [7, 64, 68] M M_7 := by rw [eM_7]; exact hF.up h1_0 (by decide)
    have hM_8 : M_7 v1_0 = .inl (cy 22, 100, .inr (.inr (.inr (.inr (va_up f5 ((nI v1_5) : Int32).toNatClampNeg none))))) := by rw [eM_7]; exact va_up_self _ _ _
    have hM_9 : M_7 oa = (b7_8 v1_0 v1_1 v1_2 v1_3 v1_4 (nI v1_5)) := by rw [eM_7, va_up_ne _ _ (ia.neT h1_0 (by decide))]; exact hM1
    have hf_11 : ∀ j, j < 100 → iskN K L ((va_up f5 ((nI v1_5) : Int32).toNatClampNeg none) j) 9 0 := (upN0 hf5)
    obtain ⟨f_10, ef_10⟩ : ∃ f : Nat → Option Nat, f = va_up f5 ((nI v1_5) : Int32).toNatClampNeg none := ⟨_, rfl⟩
    rw [← ef_10] at hM_8 hf_11
    clear ef_10
    refine lv_aload_n hx hb dX7_add_19 rfl (lv_at hl 0 rfl) ?_
    refine pg_get (D := D) (ci := 7) (v := .ref v1_1) (C := RX7) (T := TX7) (N := 6) hx hb hg inG7 hown hK hP ia.1 hM_9 rfl 1 (by decide) (hg _ wd_141) (fun _ h9 => h9) rfl dX7_add_20 ?_
    refine lv_aload_n hx hb dX7_add_23 rfl (lv_at hl 0 rfl) ?_
    refine pg_get (D := D) (ci := 7) (v := .int (nI v1_5)) (C := RX7) (T := TX7) (N := 6) hx hb hg inG7 hown hK hP ia.1 hM_9 rfl 5 (by decide) (hg _ wd_139) (fun _ h9 => h9) rfl dX7_add_24 ?_
    refine lv_lload_n hx hb dX7_add_27 rfl (lv_at hl 2 rfl) ?_
    obtain ⟨f12, hM12⟩ := hW.open_68 h1_1
    refine pg_last hx hb hK hP hD hS h1_1.1 1 hM12 rfl (inbN v1_5 100 (by omega) (by omega)) dX7_add_28 (fun H_13 locs hP hD hS => ?_)
    obtain ⟨M_14, eM_14⟩ : ∃ M1 : Hp, M1 = va_up M_7 v1_1 (.inl (cy 15, 100, .inr (.inl (vp_updL f12 ((nI v1_5) : Int32).toNatClampNeg k2)))) := ⟨_, rfl⟩
    have hP : va_P D vwCl ([] ++ va_pl L M_14) H_13 := by rw [eM_14]; exact hP
    have hD : va_D A ([] ++ va_pl L M_14) := by rw [eM_14]; exact hD
    have hW : WOK cy K L M_14 := by rw [eM_14]; exact hW.up_68 h1_1 ⟨_, rfl⟩
    have hF : fr K L [7, 64, 68] M M_14 := by rw [eM_14]; exact hF.up h1_1 (by decide)
    have hM_15 : M_14 v1_1 = .inl (cy 15, 100, .inr (.inl (vp_updL f12 ((nI v1_5) : Int32).toNatClampNeg k2))) := by rw [eM_14]; exact va_up_self _ _ _
    have hM_16 : M_14 v1_0 = .inl (cy 22, 100, .inr (.inr (.inr (.inr (f_10))))) := by rw [eM_14, va_up_ne _ _ (h1_0.neT h1_1 (by decide))]; exact hM_8
    have hM_17 : M_14 oa = (b7_8 v1_0 v1_1 v1_2 v1_3 v1_4 (nI v1_5)) := by rw [eM_14, va_up_ne _ _ (ia.neT h1_1 (by decide))]; exact hM_9
    obtain ⟨f_18, ef_18⟩ : ∃ f : Nat → Int64, f = vp_updL f12 ((nI v1_5) : Int32).toNatClampNeg k2 := ⟨_, rfl⟩
    rw [← ef_18] at hM_15
    clear ef_18
    refine lv_aload_n hx hb dX7_add_29 rfl (lv_at hl 0 rfl) ?_
    refine lv_dup hx hb dX7_add_30 rfl ?_
    refine pg_get (D := D) (ci := 7) (v := .int (nI v1_5)) (C := RX7) (T := TX7) (N := 6) hx hb hg inG7 hown hK hP ia.1 hM_17 rfl 5 (by decide) (hg _ wd_139) (fun _ h9 => h9) rfl dX7_add_31 ?_
    refine lv_iconst (v := 1) hx hb dX7_add_34 (by decide) ?_
    refine lv_iadd hx hb dX7_add_35 ?_
    refine lv_topi (fun f_19 ef_19 => ?_)
    obtain rfl : f_19 = (nI (v1_5 + 1)) := ef_19.trans (nI_add v1_5 1)
    refine pg_put (D := D) (ci := 7) (v := .int (nI (v1_5 + 1))) (ty := .int) (C := RX7) (T := TX7) (N := 6) hx hb hg inG7 tyX7 tyX7_ok nmX7 hown hK hP hD hS ia.1 hM_17 rfl 5 (by decide) (hg _ wd_139) (fun _ h9 => h9) rfl (by decide +kernel) rfl rfl (Nat.le_of_ble_eq_true rfl) dX7_add_36 (fun H_20 locs hP hD hS => ?_)
    obtain ⟨M_21, eM_21⟩ : ∃ M1 : Hp, M1 = va_up M_14 oa ((b7_8 v1_0 v1_1 v1_2 v1_3 v1_4 (nI (v1_5 + 1)))) := ⟨_, rfl⟩
    have hP : va_P D vwCl ([] ++ va_pl L M_21) H_20 := by rw [eM_21]; exact hP
    have hD : va_D A ([] ++ va_pl L M_21) := by rw [eM_21]; exact hD
    have hW : WOK cy K L M_21 := by rw [eM_21]; exact hW.up_7 ia ⟨v1_0, v1_1, v1_2, v1_3, v1_4, (v1_5 + 1), rfl, h1_0, h1_1, h1_2, h1_3, h1_4, (by omega)⟩
    have hF : fr K L [7, 64, 68] M M_21 := by rw [eM_21]; exact hF.up ia (by decide)
    have hM_22 : M_21 oa = (b7_8 v1_0 v1_1 v1_2 v1_3 v1_4 (nI (v1_5 + 1))) := by rw [eM_21]; exact va_up_self _ _ _
    have hM_23 : M_21 v1_1 = .inl (cy 15, 100, .inr (.inl (f_18))) := by rw [eM_21, va_up_ne _ _ (h1_1.neT ia (by decide))]; exact hM_15
    have hM_24 : M_21 v1_0 = .inl (cy 22, 100, .inr (.inr (.inr (.inr (f_10))))) := by rw [eM_21, va_up_ne _ _ (h1_0.neT ia (by decide))]; exact hM_16
    have hb_25 : (v1_5 + 1) ≤ 100 := by omega
    rw [hQ]
    exact W.vret hx hb hr (fun t ht hW9 => ⟨⟨M_21, rfl, ⟨hW, hF, trivial⟩, ⟨by rw [ht]; exact hP, hD⟩⟩, hS.F ht⟩) hS.2.2 dX7_add_39
set_option maxHeartbeats 4000000 in
set_option maxRecDepth 100000 in
theorem s_X7_add_s (l : Launch) (D : va_G) (cy : Nat → ClassId) (K : Kp) (L : List Nat) (M : Hp) (sz : Nat) (oa : Nat) (k1 : Nat) (k2 : Int64) (hW : WOK cy K L M) (ia : isk K L oa 7 0) (ik1 : isk K L k1 9 0) : Met l yX7_add (wsM yX7_add cX7_add 4 none) ({ frames := 0, cells := 0, slots := 0, locals := 0 }) (va_Pc [.ref oa, .ref k1, .long k2] (PG D cy [] L M sz)) (va_Qv (fun (M9 : Hp) => WOK cy K L M9 ∧ fr K L [7, 64, 68] M M9 ∧ (True)) (fun M9 t => PQ D [] L M9 (va_A ([] ++ va_pl L M) sz) t) (va_A ([] ++ va_pl L M) sz)) 0 0 (va_A ([] ++ va_pl L M) sz) := by
  refine Met.ofW (cc := cX7_add) (maxL := 4) (ret := none) (by decide) rfl ?_
  intro p e s m args below meth c s₁ B hml hv
  obtain ⟨rfl, hsz, hP, hK, hD0, hN⟩ := hv
  have hx := B.exec
  have hb := B.bytes
  have hr := B.returns
  have hts := atoms_spec (ws := (wsM yX7_add cX7_add 4 none)) B.pre
  have hg : ∀ w ∈ lw_good, w.before _ s = true := fun w h => hts w (List.mem_cons_of_mem _ h)
  have hown : s.vm.findClass RX7 = some m.cls := findClass_of_methodNamed B.named
  have hlocks := B.notSynchronized
  subst hsz
  have hD := hD0.self (sz := s.heap.size)
  generalize hAe : va_A ([] ++ va_pl L M) s.heap.size = A at hD ⊢
  have hA : ∀ q : Nat, s.heap.size ≤ q → A q := fun q h => by rw [← hAe]; exact Or.inr h
  have hS : va_S A s.heap s.heap [] := va_S.rf
  have hl := lv_entry ([.ref oa, .ref k1, .long k2]) (n := 4) (Nat.le_of_ble_eq_true rfl)
  rw [lg_entry_eq]
  generalize (lg_sl ([.ref oa, .ref k1, .long k2]) ++ List.replicate (4 - (lg_sl ([.ref oa, .ref k1, .long k2])).length) Slot.unset).toArray = ls at hl ⊢
  refine W.nameQ (fun Q hQ => ?_)
  refine W.nameR (fun R hR => ?_)
  have hRf : 0 ≤ R.frames := by rw [hR]; exact Nat.le_of_ble_eq_true rfl
  have hRl : 0 ≤ R.locals := by rw [hR]; exact Nat.le_of_ble_eq_true rfl
  have hRc : 0 ≤ R.cells := by rw [hR]; exact Nat.le_of_ble_eq_true rfl
  have hRs : 0 ≤ R.slots := by rw [hR]; exact Nat.le_of_ble_eq_true rfl
  have hF : fr K L [7, 64, 68] M M := fr.rf
  have hl : lv_has ls 4 [(0, .ref oa), (1, .ref k1), (2, .long k2)] := hl
  refine lv_aload_n hx hb dX7_add_0 rfl (lv_at hl 0 rfl) ?_
  obtain ⟨v1_0, v1_1, v1_2, v1_3, v1_4, v1_5, hM1, h1_0, h1_1, h1_2, h1_3, h1_4, h1_5⟩ := hW.open_7 ia
  refine pg_get (D := D) (ci := 7) (v := .int (nI v1_5)) (C := RX7) (T := TX7) (N := 6) hx hb hg inG7 hown hK hP ia.1 hM1 rfl 5 (by decide) (hg _ wd_139) (fun _ h9 => h9) rfl dX7_add_1 ?_
  refine lv_bipush (v := 100) hx hb dX7_add_4 (by decide) ?_
  refine lv_icmp_ge (tgt := 39) hx hb dX7_add_6 (by decide) (fun c_2 => ?_) (fun c_2 => ?_)
  · have hz := rfl (a := 0)
    have n_3 : 100 ≤ v1_5 := (iLE (a := 100) (b := v1_5) (by omega) (by omega)).mp c_2
    rw [hQ]
    exact W.vret hx hb hr (fun t ht hW9 => ⟨⟨M, rfl, ⟨hW, hF, trivial⟩, ⟨by rw [ht]; exact hP, hD⟩⟩, hS.F ht⟩) hS.2.2 dX7_add_39
  · have hz := rfl (a := 0)
    have n_4 : ¬ (100 ≤ v1_5) := fun q => c_2 ((iLE (a := 100) (b := v1_5) (by omega) (by omega)).mpr q)
    refine lv_aload_n hx hb dX7_add_9 rfl (lv_at hl 0 rfl) ?_
    refine pg_get (D := D) (ci := 7) (v := .ref v1_0) (C := RX7) (T := TX7) (N := 6) hx hb hg inG7 hown hK hP ia.1 hM1 rfl 0 (by decide) (hg _ wd_140) (fun _ h9 => h9) rfl dX7_add_10 ?_
    refine lv_aload_n hx hb dX7_add_13 rfl (lv_at hl 0 rfl) ?_
    refine pg_get (D := D) (ci := 7) (v := .int (nI v1_5)) (C := RX7) (T := TX7) (N := 6) hx hb hg inG7 hown hK hP ia.1 hM1 rfl 5 (by decide) (hg _ wd_139) (fun _ h9 => h9) rfl dX7_add_14 ?_
    refine lv_aload_n hx hb dX7_add_17 rfl (lv_at hl 1 rfl) ?_
    obtain ⟨f5, hM5, hf5⟩ := hW.open_64 h1_0
    obtain ⟨v7_0, v7_1, v7_2, v7_3, v7_4, v7_5, v7_6, v7_7, v7_8, v7_9, v7_10, v7_11, v7_12, v7_13, v7_14, v7_15, hM7, h7_0, h7_1, h7_4, h7_8⟩ := hW.open_9 ik1
    refine pg_astq (r := (RX9, TX9, 16)) hx hb hK hP hD hS h1_0.1 8 9 hM5 rfl ik1.1 hM7 rfl (inbN v1_5 100 (by omega) (by omega)) dX7_add_18 (fun H_6 locs hP hD hS => ?_)
    obtain ⟨M_8, eM_8⟩ : ∃ M1 : Hp, M1 = va_up M v1_0 (.inl (cy 22, 100, .inr (.inr (.inr (.inr (va_up f5 ((nI v1_5) : Int32).toNatClampNeg (some k1))))))) := ⟨_, rfl⟩
    have hP : va_P D vwCl ([] ++ va_pl L M_8) H_6 := by rw [eM_8]; exact hP
    have hD : va_D A ([] ++ va_pl L M_8) := by rw [eM_8]; exact hD
    have hW : WOK cy K L M_8 := by rw [eM_8]; exact hW.up_64 h1_0 ⟨_, rfl, (upN hf5 ik1)⟩
    have hF : fr K L [7, 64, 68] M M_8 := by rw [eM_8]; exact hF.up h1_0 (by decide)
    have hM_9 : M_8 v1_0 = .inl (cy 22, 100, .inr (.inr (.inr (.inr (va_up f5 ((nI v1_5) : Int32).toNatClampNeg (some k1)))))) := by rw [eM_8]; exact va_up_self _ _ _
    have hM_10 : M_8 oa = (b7_8 v1_0 v1_1 v1_2 v1_3 v1_4 (nI v1_5)) := by rw [eM_8, va_up_ne _ _ (ia.neT h1_0 (by decide))]; exact hM1
    have hM_11 : M_8 k1 = (b9_9 (nI v7_0) v7_1 v7_2 v7_3 v7_4 v7_5 v7_6 v7_7 v7_8 v7_9 v7_10 v7_11 v7_12 v7_13 v7_14 v7_15) := by rw [eM_8, va_up_ne _ _ (ik1.neT h1_0 (by decide))]; exact hM7
    have hf_13 : ∀ j, j < 100 → iskN K L ((va_up f5 ((nI v1_5) : Int32).toNatClampNeg (some k1)) j) 9 0 := (upN hf5 ik1)
    obtain ⟨f_12, ef_12⟩ : ∃ f : Nat → Option Nat, f = va_up f5 ((nI v1_5) : Int32).toNatClampNeg (some k1) := ⟨_, rfl⟩
    rw [← ef_12] at hM_9 hf_13
    have hk_14 : f_12 ((nI v1_5) : Int32).toNatClampNeg = some k1 := by rw [ef_12]; exact va_up_self _ _ _
    clear ef_12
    refine lv_aload_n hx hb dX7_add_19 rfl (lv_at hl 0 rfl) ?_
    refine pg_get (D := D) (ci := 7) (v := .ref v1_1) (C := RX7) (T := TX7) (N := 6) hx hb hg inG7 hown hK hP ia.1 hM_10 rfl 1 (by decide) (hg _ wd_141) (fun _ h9 => h9) rfl dX7_add_20 ?_
    refine lv_aload_n hx hb dX7_add_23 rfl (lv_at hl 0 rfl) ?_
    refine pg_get (D := D) (ci := 7) (v := .int (nI v1_5)) (C := RX7) (T := TX7) (N := 6) hx hb hg inG7 hown hK hP ia.1 hM_10 rfl 5 (by decide) (hg _ wd_139) (fun _ h9 => h9) rfl dX7_add_24 ?_
    refine lv_lload_n hx hb dX7_add_27 rfl (lv_at hl 2 rfl) ?_
    obtain ⟨f15, hM15⟩ := hW.open_68 h1_1
    refine pg_last hx hb hK hP hD hS h1_1.1 1 hM15 rfl (inbN v1_5 100 (by omega) (by omega)) dX7_add_28 (fun H_16 locs hP hD hS => ?_)
    obtain ⟨M_17, eM_17⟩ : ∃ M1 : Hp, M1 = va_up M_8 v1_1 (.inl (cy 15, 100, .inr (.inl (vp_updL f15 ((nI v1_5) : Int32).toNatClampNeg k2)))) := ⟨_, rfl⟩
    have hP : va_P D vwCl ([] ++ va_pl L M_17) H_16 := by rw [eM_17]; exact hP
    have hD : va_D A ([] ++ va_pl L M_17) := by rw [eM_17]; exact hD
    have hW : WOK cy K L M_17 := by rw [eM_17]; exact hW.up_68 h1_1 ⟨_, rfl⟩
    have hF : fr K L [7, 64, 68] M M_17 := by rw [eM_17]; exact hF.up h1_1 (by decide)
    have hM_18 : M_17 v1_1 = .inl (cy 15, 100, .inr (.inl (vp_updL f15 ((nI v1_5) : Int32).toNatClampNeg k2))) := by rw [eM_17]; exact va_up_self _ _ _
    have hM_19 : M_17 v1_0 = .inl (cy 22, 100, .inr (.inr (.inr (.inr (f_12))))) := by rw [eM_17, va_up_ne _ _ (h1_0.neT h1_1 (by decide))]; exact hM_9
    have hM_20 : M_17 oa = (b7_8 v1_0 v1_1 v1_2 v1_3 v1_4 (nI v1_5)) := by rw [eM_17, va_up_ne _ _ (ia.neT h1_1 (by decide))]; exact hM_10
    have hM_21 : M_17 k1 = (b9_9 (nI v7_0) v7_1 v7_2 v7_3 v7_4 v7_5 v7_6 v7_7 v7_8 v7_9 v7_10 v7_11 v7_12 v7_13 v7_14 v7_15) := by rw [eM_17, va_up_ne _ _ (ik1.neT h1_1 (by decide))]; exact hM_11
    obtain ⟨f_22, ef_22⟩ : ∃ f : Nat → Int64, f = vp_updL f15 ((nI v1_5) : Int32).toNatClampNeg k2 := ⟨_, rfl⟩
    rw [← ef_22] at hM_18
    clear ef_22
    refine lv_aload_n hx hb dX7_add_29 rfl (lv_at hl 0 rfl) ?_
    refine lv_dup hx hb dX7_add_30 rfl ?_
    refine pg_get (D := D) (ci := 7) (v := .int (nI v1_5)) (C := RX7) (T := TX7) (N := 6) hx hb hg inG7 hown hK hP ia.1 hM_20 rfl 5 (by decide) (hg _ wd_139) (fun _ h9 => h9) rfl dX7_add_31 ?_
    refine lv_iconst (v := 1) hx hb dX7_add_34 (by decide) ?_
    refine lv_iadd hx hb dX7_add_35 ?_
    refine lv_topi (fun f_23 ef_23 => ?_)
    obtain rfl : f_23 = (nI (v1_5 + 1)) := ef_23.trans (nI_add v1_5 1)
    refine pg_put (D := D) (ci := 7) (v := .int (nI (v1_5 + 1))) (ty := .int) (C := RX7) (T := TX7) (N := 6) hx hb hg inG7 tyX7 tyX7_ok nmX7 hown hK hP hD hS ia.1 hM_20 rfl 5 (by decide) (hg _ wd_139) (fun _ h9 => h9) rfl (by decide +kernel) rfl rfl (Nat.le_of_ble_eq_true rfl) dX7_add_36 (fun H_24 locs hP hD hS => ?_)
    obtain ⟨M_25, eM_25⟩ : ∃ M1 : Hp, M1 = va_up M_17 oa ((b7_8 v1_0 v1_1 v1_2 v1_3 v1_4 (nI (v1_5 + 1)))) := ⟨_, rfl⟩
    have hP : va_P D vwCl ([] ++ va_pl L M_25) H_24 := by rw [eM_25]; exact hP
    have hD : va_D A ([] ++ va_pl L M_25) := by rw [eM_25]; exact hD
    have hW : WOK cy K L M_25 := by rw [eM_25]; exact hW.up_7 ia ⟨v1_0, v1_1, v1_2, v1_3, v1_4, (v1_5 + 1), rfl, h1_0, h1_1, h1_2, h1_3, h1_4, (by omega)⟩
    have hF : fr K L [7, 64, 68] M M_25 := by rw [eM_25]; exact hF.up ia (by decide)
    have hM_26 : M_25 oa = (b7_8 v1_0 v1_1 v1_2 v1_3 v1_4 (nI (v1_5 + 1))) := by rw [eM_25]; exact va_up_self _ _ _
    have hM_27 : M_25 v1_1 = .inl (cy 15, 100, .inr (.inl (f_22))) := by rw [eM_25, va_up_ne _ _ (h1_1.neT ia (by decide))]; exact hM_18
    have hM_28 : M_25 v1_0 = .inl (cy 22, 100, .inr (.inr (.inr (.inr (f_12))))) := by rw [eM_25, va_up_ne _ _ (h1_0.neT ia (by decide))]; exact hM_19
    have hM_29 : M_25 k1 = (b9_9 (nI v7_0) v7_1 v7_2 v7_3 v7_4 v7_5 v7_6 v7_7 v7_8 v7_9 v7_10 v7_11 v7_12 v7_13 v7_14 v7_15) := by rw [eM_25, va_up_ne _ _ (ik1.neT ia (by decide))]; exact hM_21
    have hb_30 : (v1_5 + 1) ≤ 100 := by omega
    rw [hQ]
    exact W.vret hx hb hr (fun t ht hW9 => ⟨⟨M_25, rfl, ⟨hW, hF, trivial⟩, ⟨by rw [ht]; exact hP, hD⟩⟩, hS.F ht⟩) hS.2.2 dX7_add_39
set_option maxHeartbeats 4000000 in
set_option maxRecDepth 100000 in
theorem s_X7_totalWeight (l : Launch) (D : va_G) (cy : Nat → ClassId) (K : Kp) (L : List Nat) (M : Hp) (sz : Nat) (oa : Nat) (hW : WOK cy K L M) (ia : isk K L oa 7 0) : Met l yX7_totalWeight (wsM yX7_totalWeight cX7_totalWeight 4 (some .long)) ({ frames := 0, cells := 0, slots := 0, locals := 0 }) (va_Pc [.ref oa] (PG D cy [] L M sz)) (va_Ql (fun (r : Int64) (_ : Unit) => True) (fun _ t => PQ D [] L M (va_A ([] ++ va_pl L M) sz) t) (va_A ([] ++ va_pl L M) sz)) 0 0 (va_A ([] ++ va_pl L M) sz) := by
  refine Met.ofW (cc := cX7_totalWeight) (maxL := 4) (ret := (some .long)) (by decide) rfl ?_
  intro p e s m args below meth c s₁ B hml hv
  obtain ⟨rfl, hsz, hP, hK, hD0, hN⟩ := hv
  have hx := B.exec
  have hb := B.bytes
  have hr := B.returns
  have hts := atoms_spec (ws := (wsM yX7_totalWeight cX7_totalWeight 4 (some .long))) B.pre
  have hg : ∀ w ∈ lw_good, w.before _ s = true := fun w h => hts w (List.mem_cons_of_mem _ h)
  have hown : s.vm.findClass RX7 = some m.cls := findClass_of_methodNamed B.named
  have hlocks := B.notSynchronized
  subst hsz
  have hD := hD0.self (sz := s.heap.size)
  generalize hAe : va_A ([] ++ va_pl L M) s.heap.size = A at hD ⊢
  have hA : ∀ q : Nat, s.heap.size ≤ q → A q := fun q h => by rw [← hAe]; exact Or.inr h
  have hS : va_S A s.heap s.heap [] := va_S.rf
  have hl := lv_entry ([.ref oa]) (n := 4) (Nat.le_of_ble_eq_true rfl)
  rw [lg_entry_eq]
  generalize (lg_sl ([.ref oa]) ++ List.replicate (4 - (lg_sl ([.ref oa])).length) Slot.unset).toArray = ls at hl ⊢
  refine W.nameQ (fun Q hQ => ?_)
  refine W.nameR (fun R hR => ?_)
  have hRf : 0 ≤ R.frames := by rw [hR]; exact Nat.le_of_ble_eq_true rfl
  have hRl : 0 ≤ R.locals := by rw [hR]; exact Nat.le_of_ble_eq_true rfl
  have hRc : 0 ≤ R.cells := by rw [hR]; exact Nat.le_of_ble_eq_true rfl
  have hRs : 0 ≤ R.slots := by rw [hR]; exact Nat.le_of_ble_eq_true rfl
  have hl : lv_has ls 4 [(0, .ref oa)] := hl
  refine lv_lconst (v := 0) hx hb dX7_totalWeight_0 (by decide) ?_
  refine lv_lstore_n (lv' := [(1, .long 0), (0, .ref oa)]) hx hb dX7_totalWeight_1 rfl hl (by decide) rfl (fun ls hl => ?_)
  refine lv_iconst (v := 0) hx hb dX7_totalWeight_2 (by decide) ?_
  refine lv_istore_n (lv' := [(3, .int 0), (1, .long 0), (0, .ref oa)]) hx hb dX7_totalWeight_3 rfl hl (by decide) rfl (fun ls hl => ?_)
  have key_1 : ∀ (fu_3 : Nat) (v1w4 : Int64) (v3w4 : Nat) (H_6 : Heap) (locs : List Loc) (ls : Array Slot), 100 - v3w4 < fu_3 → v3w4 ≤ 100 → WOK cy K L M → va_P D vwCl ([] ++ va_pl L M) H_6 → va_D A ([] ++ va_pl L M) → va_S A s.heap H_6 locs → lv_has ls 4 [(3, .int (nI v3w4)), (1, .long v1w4), (0, .ref oa)] → W p l e R s m ([.ref oa] : List Value).toArray below meth c H_6 locs 0 0 Q (F0 m 4 ls []) := by
    intro fu_3
    induction fu_3 with
    | zero => intro v1w4 v3w4 H_6 locs ls h; exact absurd h (Nat.not_lt_zero _)
    | succ fu_3 ih_2 =>
      intro v1w4 v3w4 H_6 locs ls hfu hx_5 hW hP hD hS hl
      refine lv_iload_n hx hb dX7_totalWeight_4 rfl (lv_at hl 0 rfl) ?_
      refine lv_aload_n hx hb dX7_totalWeight_5 rfl (lv_at hl 2 rfl) ?_
      obtain ⟨v7_0, v7_1, v7_2, v7_3, v7_4, v7_5, hM7, h7_0, h7_1, h7_2, h7_3, h7_4, h7_5⟩ := hW.open_7 ia
      refine pg_get (D := D) (ci := 7) (v := .int (nI v7_5)) (C := RX7) (T := TX7) (N := 6) hx hb hg inG7 hown hK hP ia.1 hM7 rfl 5 (by decide) (hg _ wd_139) (fun _ h9 => h9) rfl dX7_totalWeight_6 ?_
      refine lv_icmp_ge (tgt := 27) hx hb dX7_totalWeight_9 (by decide) (fun c_8 => ?_) (fun c_8 => ?_)
      · have hz := rfl (a := 0)
        have n_9 : v7_5 ≤ v3w4 := (iLE (a := v7_5) (b := v3w4) (by omega) (by omega)).mp c_8
        refine lv_lload_n hx hb dX7_totalWeight_27 rfl (lv_at hl 1 rfl) ?_
        rw [hQ]
        exact W.lret (v := v1w4) hx hb hr (fun t ht hW9 => ⟨⟨v1w4, (), rfl, trivial, ⟨by rw [ht]; exact hP, hD⟩⟩, hS.F ht⟩) hS.2.2 dX7_totalWeight_28
      · have hz := rfl (a := 0)
        have n_10 : ¬ (v7_5 ≤ v3w4) := fun q => c_8 ((iLE (a := v7_5) (b := v3w4) (by omega) (by omega)).mpr q)
        refine lv_lload_n hx hb dX7_totalWeight_12 rfl (lv_at hl 1 rfl) ?_
        refine lv_aload_n hx hb dX7_totalWeight_13 rfl (lv_at hl 2 rfl) ?_
        refine pg_get (D := D) (ci := 7) (v := .ref v7_1) (C := RX7) (T := TX7) (N := 6) hx hb hg inG7 hown hK hP ia.1 hM7 rfl 1 (by decide) (hg _ wd_141) (fun _ h9 => h9) rfl dX7_totalWeight_14 ?_
        refine lv_iload_n hx hb dX7_totalWeight_17 rfl (lv_at hl 0 rfl) ?_
        obtain ⟨f11, hM11⟩ := hW.open_68 h7_1
        refine pg_lald hx hb hK hP h7_1.1 1 hM11 rfl (inbN v3w4 100 (by omega) (by omega)) dX7_totalWeight_18 ?_
        refine lv_topl (fun f_12 ef_12 => ?_)
        refine lv_ladd hx hb dX7_totalWeight_19 ?_
        refine lv_topl (fun f_13 ef_13 => ?_)
        refine lv_lstore_n (lv' := [(1, .long f_13), (3, .int (nI v3w4)), (0, .ref oa)]) hx hb dX7_totalWeight_20 rfl hl (by decide) rfl (fun ls hl => ?_)
        refine lv_iinc (v := (nI (v3w4 + 1))) (lv' := [(3, .int (nI (v3w4 + 1))), (1, .long f_13), (0, .ref oa)]) hx hb dX7_totalWeight_21 hl (k := 1) rfl (nI_1 v3w4) (by decide) rfl (fun ls hl => ?_)
        refine lv_goto (tgt := 4) hx hb dX7_totalWeight_24 (by decide) ?_
        exact ih_2 f_13 (v3w4 + 1) H_6 _ _ (by omega) (by omega) hW hP hD hS (lv_sub hl [0, 1, 2] rfl)
  exact key_1 (100 - 0 + 1) 0 0 s.heap _ _ (by omega) (by omega) hW hP hD hS (lv_sub hl [0, 1, 2] rfl)
set_option maxHeartbeats 4000000 in
set_option maxRecDepth 100000 in
theorem s_X7_giveCoin (l : Launch) (D : va_G) (cy : Nat → ClassId) (K : Kp) (L : List Nat) (M : Hp) (sz : Nat) (oa : Nat) (hW : WOK cy K L M) (ia : isk K L oa 7 0) : Met l yX7_giveCoin (wsM yX7_giveCoin cX7_giveCoin 3 none) ({ frames := 0, cells := 0, slots := 0, locals := 0 }) (va_Pc [.ref oa] (PG D cy [] L M sz)) (va_Qv (fun (M9 : Hp) => WOK cy K L M9 ∧ fr K L [69, 70] M M9 ∧ (True)) (fun M9 t => PQ D [] L M9 (va_A ([] ++ va_pl L M) sz) t) (va_A ([] ++ va_pl L M) sz)) 0 0 (va_A ([] ++ va_pl L M) sz) := by
  refine Met.ofW (cc := cX7_giveCoin) (maxL := 3) (ret := none) (by decide) rfl ?_
  intro p e s m args below meth c s₁ B hml hv
  obtain ⟨rfl, hsz, hP, hK, hD0, hN⟩ := hv
  have hx := B.exec
  have hb := B.bytes
  have hr := B.returns
  have hts := atoms_spec (ws := (wsM yX7_giveCoin cX7_giveCoin 3 none)) B.pre
  have hg : ∀ w ∈ lw_good, w.before _ s = true := fun w h => hts w (List.mem_cons_of_mem _ h)
  have hown : s.vm.findClass RX7 = some m.cls := findClass_of_methodNamed B.named
  have hlocks := B.notSynchronized
  subst hsz
  have hD := hD0.self (sz := s.heap.size)
  generalize hAe : va_A ([] ++ va_pl L M) s.heap.size = A at hD ⊢
  have hA : ∀ q : Nat, s.heap.size ≤ q → A q := fun q h => by rw [← hAe]; exact Or.inr h
  have hS : va_S A s.heap s.heap [] := va_S.rf
  have hl := lv_entry ([.ref oa]) (n := 3) (Nat.le_of_ble_eq_true rfl)
  rw [lg_entry_eq]
  generalize (lg_sl ([.ref oa]) ++ List.replicate (3 - (lg_sl ([.ref oa])).length) Slot.unset).toArray = ls at hl ⊢
  refine W.nameQ (fun Q hQ => ?_)
  refine W.nameR (fun R hR => ?_)
  have hRf : 0 ≤ R.frames := by rw [hR]; exact Nat.le_of_ble_eq_true rfl
  have hRl : 0 ≤ R.locals := by rw [hR]; exact Nat.le_of_ble_eq_true rfl
  have hRc : 0 ≤ R.cells := by rw [hR]; exact Nat.le_of_ble_eq_true rfl
  have hRs : 0 ≤ R.slots := by rw [hR]; exact Nat.le_of_ble_eq_true rfl
  have hF : fr K L [69, 70] M M := fr.rf
  have hl : lv_has ls 3 [(0, .ref oa)] := hl
  refine lv_iconst (v := (-1)) hx hb dX7_giveCoin_0 (by decide) ?_
  refine lv_istore_n (lv' := [(1, .int (-1)), (0, .ref oa)]) hx hb dX7_giveCoin_1 rfl hl (by decide) rfl (fun ls hl => ?_)
  refine lv_iconst (v := 0) hx hb dX7_giveCoin_2 (by decide) ?_
  refine lv_istore_n (lv' := [(2, .int 0), (1, .int (-1)), (0, .ref oa)]) hx hb dX7_giveCoin_3 rfl hl (by decide) rfl (fun ls hl => ?_)
  have key_1 : ∀ (fu_3 : Nat) (v1w4 : Int32) (v2w4 : Nat) (M_7 : Hp) (H_8 : Heap) (locs : List Loc) (ls : Array Slot), 100 - v2w4 < fu_3 → (v1w4 = (-1) ∨ ∃ j : Nat, j < 100 ∧ v1w4 = nI j) → v2w4 ≤ 100 → WOK cy K L M_7 → fr K L [69, 70] M M_7 → va_P D vwCl ([] ++ va_pl L M_7) H_8 → va_D A ([] ++ va_pl L M_7) → va_S A s.heap H_8 locs → lv_has ls 3 [(2, .int (nI v2w4)), (1, .int v1w4), (0, .ref oa)] → W p l e R s m ([.ref oa] : List Value).toArray below meth c H_8 locs 0 0 Q (F0 m 4 ls []) := by
    intro fu_3
    induction fu_3 with
    | zero => intro v1w4 v2w4 M_7 H_8 locs ls h; exact absurd h (Nat.not_lt_zero _)
    | succ fu_3 ih_2 =>
      intro v1w4 v2w4 M_7 H_8 locs ls hfu hq_5 hx_6 hW hF hP hD hS hl
      rcases hq_5 with rfl | ⟨j_9, hj_10, rfl⟩
      · have hz := rfl (a := 0)
        refine lv_iload_n hx hb dX7_giveCoin_4 rfl (lv_at hl 0 rfl) ?_
        refine lv_aload_n hx hb dX7_giveCoin_5 rfl (lv_at hl 2 rfl) ?_
        obtain ⟨v11_0, v11_1, v11_2, v11_3, v11_4, v11_5, hM11, h11_0, h11_1, h11_2, h11_3, h11_4, h11_5⟩ := hW.open_7 ia
        refine pg_get (D := D) (ci := 7) (v := .int (nI v11_5)) (C := RX7) (T := TX7) (N := 6) hx hb hg inG7 hown hK hP ia.1 hM11 rfl 5 (by decide) (hg _ wd_139) (fun _ h9 => h9) rfl dX7_giveCoin_6 ?_
        refine lv_icmp_ge (tgt := 41) hx hb dX7_giveCoin_9 (by decide) (fun c_12 => ?_) (fun c_12 => ?_)
        · have hz := rfl (a := 0)
          have n_13 : v11_5 ≤ v2w4 := (iLE (a := v11_5) (b := v2w4) (by omega) (by omega)).mp c_12
          refine lv_iload_n hx hb dX7_giveCoin_41 rfl (lv_at hl 1 rfl) ?_
          refine lv_iconst (v := (-1)) hx hb dX7_giveCoin_42 (by decide) ?_
          refine lv_icmp_eq (tgt := 65) hx hb dX7_giveCoin_43 (by decide) (fun _ => ?_) (fun c_14 => absurd c_14 (by decide))
          rw [hQ]
          exact W.vret hx hb hr (fun t ht hW9 => ⟨⟨M_7, rfl, ⟨hW, hF, trivial⟩, ⟨by rw [ht]; exact hP, hD⟩⟩, hS.F ht⟩) hS.2.2 dX7_giveCoin_65
        · have hz := rfl (a := 0)
          have n_15 : ¬ (v11_5 ≤ v2w4) := fun q => c_12 ((iLE (a := v11_5) (b := v2w4) (by omega) (by omega)).mpr q)
          refine lv_iload_n hx hb dX7_giveCoin_12 rfl (lv_at hl 1 rfl) ?_
          refine lv_iconst (v := (-1)) hx hb dX7_giveCoin_13 (by decide) ?_
          refine lv_icmp_eq (tgt := 33) hx hb dX7_giveCoin_14 (by decide) (fun _ => ?_) (fun c_16 => absurd c_16 (by decide))
          refine lv_iload_n hx hb dX7_giveCoin_33 rfl (lv_at hl 0 rfl) ?_
          refine lv_istore_n (lv' := [(1, .int (nI v2w4)), (2, .int (nI v2w4)), (0, .ref oa)]) hx hb dX7_giveCoin_34 rfl hl (by decide) rfl (fun ls hl => ?_)
          refine lv_iinc (v := (nI (v2w4 + 1))) (lv' := [(2, .int (nI (v2w4 + 1))), (1, .int (nI v2w4)), (0, .ref oa)]) hx hb dX7_giveCoin_35 hl (k := 1) rfl (nI_1 v2w4) (by decide) rfl (fun ls hl => ?_)
          refine lv_goto (tgt := 4) hx hb dX7_giveCoin_38 (by decide) ?_
          exact ih_2 (nI v2w4) (v2w4 + 1) M_7 H_8 _ _ (by omega) (Or.inr ⟨v2w4, by omega, rfl⟩) (by omega) hW hF hP hD hS (lv_sub hl [0, 1, 2] rfl)
      · have hz := rfl (a := 0)
        refine lv_iload_n hx hb dX7_giveCoin_4 rfl (lv_at hl 0 rfl) ?_
        refine lv_aload_n hx hb dX7_giveCoin_5 rfl (lv_at hl 2 rfl) ?_
        obtain ⟨v17_0, v17_1, v17_2, v17_3, v17_4, v17_5, hM17, h17_0, h17_1, h17_2, h17_3, h17_4, h17_5⟩ := hW.open_7 ia
        refine pg_get (D := D) (ci := 7) (v := .int (nI v17_5)) (C := RX7) (T := TX7) (N := 6) hx hb hg inG7 hown hK hP ia.1 hM17 rfl 5 (by decide) (hg _ wd_139) (fun _ h9 => h9) rfl dX7_giveCoin_6 ?_
        refine lv_icmp_ge (tgt := 41) hx hb dX7_giveCoin_9 (by decide) (fun c_18 => ?_) (fun c_18 => ?_)
        · have hz := rfl (a := 0)
          have n_19 : v17_5 ≤ v2w4 := (iLE (a := v17_5) (b := v2w4) (by omega) (by omega)).mp c_18
          refine lv_iload_n hx hb dX7_giveCoin_41 rfl (lv_at hl 1 rfl) ?_
          refine lv_iconst (v := (-1)) hx hb dX7_giveCoin_42 (by decide) ?_
          refine lv_icmp_eq (tgt := 65) hx hb dX7_giveCoin_43 (by decide) (fun c_20 => absurd c_20 (nI_ne_m1 (by omega))) (fun _ => ?_)
          refine lv_aload_n hx hb dX7_giveCoin_46 rfl (lv_at hl 2 rfl) ?_
          refine pg_get (D := D) (ci := 7) (v := .ref v17_2) (C := RX7) (T := TX7) (N := 6) hx hb hg inG7 hown hK hP ia.1 hM17 rfl 2 (by decide) (hg _ wd_142) (fun _ h9 => h9) rfl dX7_giveCoin_47 ?_
          refine lv_iload_n hx hb dX7_giveCoin_50 rfl (lv_at hl 1 rfl) ?_
          refine lv_dup2_11 hx hb dX7_giveCoin_51 rfl rfl ?_
          obtain ⟨f21, hM21⟩ := hW.open_69 h17_2
          refine pg_lald hx hb hK hP h17_2.1 1 hM21 rfl (inbN j_9 100 (by omega) (by omega)) dX7_giveCoin_52 ?_
          refine lv_topl (fun f_22 ef_22 => ?_)
          refine lv_lconst (v := 1) hx hb dX7_giveCoin_53 (by decide) ?_
          refine lv_ladd hx hb dX7_giveCoin_54 ?_
          refine lv_topl (fun f_23 ef_23 => ?_)
          refine pg_last hx hb hK hP hD hS h17_2.1 1 hM21 rfl (inbN j_9 100 (by omega) (by omega)) dX7_giveCoin_55 (fun H_24 locs hP hD hS => ?_)
          obtain ⟨M_25, eM_25⟩ : ∃ M1 : Hp, M1 = va_up M_7 v17_2 (.inl (cy 15, 100, .inr (.inl (vp_updL f21 ((nI j_9) : Int32).toNatClampNeg f_23)))) := ⟨_, rfl⟩
          have hP : va_P D vwCl ([] ++ va_pl L M_25) H_24 := by rw [eM_25]; exact hP
          have hD : va_D A ([] ++ va_pl L M_25) := by rw [eM_25]; exact hD
          have hW : WOK cy K L M_25 := by rw [eM_25]; exact hW.up_69 h17_2 ⟨_, rfl⟩
          have hF : fr K L [69, 70] M M_25 := by rw [eM_25]; exact hF.up h17_2 (by decide)
          have hM_26 : M_25 v17_2 = .inl (cy 15, 100, .inr (.inl (vp_updL f21 ((nI j_9) : Int32).toNatClampNeg f_23))) := by rw [eM_25]; exact va_up_self _ _ _
          have hM_27 : M_25 oa = (b7_8 v17_0 v17_1 v17_2 v17_3 v17_4 (nI v17_5)) := by rw [eM_25, va_up_ne _ _ (ia.neT h17_2 (by decide))]; exact hM17
          obtain ⟨f_28, ef_28⟩ : ∃ f : Nat → Int64, f = vp_updL f21 ((nI j_9) : Int32).toNatClampNeg f_23 := ⟨_, rfl⟩
          rw [← ef_28] at hM_26
          clear ef_28
          refine lv_aload_n hx hb dX7_giveCoin_56 rfl (lv_at hl 2 rfl) ?_
          refine pg_get (D := D) (ci := 7) (v := .ref v17_3) (C := RX7) (T := TX7) (N := 6) hx hb hg inG7 hown hK hP ia.1 hM_27 rfl 3 (by decide) (hg _ wd_143) (fun _ h9 => h9) rfl dX7_giveCoin_57 ?_
          refine lv_iload_n hx hb dX7_giveCoin_60 rfl (lv_at hl 1 rfl) ?_
          refine lv_ldc2 (v := (-1)) hx hb hown (hg _ wd_144) dX7_giveCoin_61 ?_
          obtain ⟨f29, hM29⟩ := hW.open_70 h17_3
          refine pg_last hx hb hK hP hD hS h17_3.1 1 hM29 rfl (inbN j_9 100 (by omega) (by omega)) dX7_giveCoin_64 (fun H_30 locs hP hD hS => ?_)
          obtain ⟨M_31, eM_31⟩ : ∃ M1 : Hp, M1 = va_up M_25 v17_3 (.inl (cy 15, 100, .inr (.inl (vp_updL f29 ((nI j_9) : Int32).toNatClampNeg (-1))))) := ⟨_, rfl⟩
          have hP : va_P D vwCl ([] ++ va_pl L M_31) H_30 := by rw [eM_31]; exact hP
          have hD : va_D A ([] ++ va_pl L M_31) := by rw [eM_31]; exact hD
          have hW : WOK cy K L M_31 := by rw [eM_31]; exact hW.up_70 h17_3 ⟨_, rfl⟩
          have hF : fr K L [69, 70] M M_31 := by rw [eM_31]; exact hF.up h17_3 (by decide)
          have hM_32 : M_31 v17_3 = .inl (cy 15, 100, .inr (.inl (vp_updL f29 ((nI j_9) : Int32).toNatClampNeg (-1)))) := by rw [eM_31]; exact va_up_self _ _ _
          have hM_33 : M_31 v17_2 = .inl (cy 15, 100, .inr (.inl (f_28))) := by rw [eM_31, va_up_ne _ _ (h17_2.neT h17_3 (by decide))]; exact hM_26
          have hM_34 : M_31 oa = (b7_8 v17_0 v17_1 v17_2 v17_3 v17_4 (nI v17_5)) := by rw [eM_31, va_up_ne _ _ (ia.neT h17_3 (by decide))]; exact hM_27
          obtain ⟨f_35, ef_35⟩ : ∃ f : Nat → Int64, f = vp_updL f29 ((nI j_9) : Int32).toNatClampNeg (-1) := ⟨_, rfl⟩
          rw [← ef_35] at hM_32
          clear ef_35
          rw [hQ]
          exact W.vret hx hb hr (fun t ht hW9 => ⟨⟨M_31, rfl, ⟨hW, hF, trivial⟩, ⟨by rw [ht]; exact hP, hD⟩⟩, hS.F ht⟩) hS.2.2 dX7_giveCoin_65
        · have hz := rfl (a := 0)
          have n_36 : ¬ (v17_5 ≤ v2w4) := fun q => c_18 ((iLE (a := v17_5) (b := v2w4) (by omega) (by omega)).mpr q)
          refine lv_iload_n hx hb dX7_giveCoin_12 rfl (lv_at hl 1 rfl) ?_
          refine lv_iconst (v := (-1)) hx hb dX7_giveCoin_13 (by decide) ?_
          refine lv_icmp_eq (tgt := 33) hx hb dX7_giveCoin_14 (by decide) (fun c_37 => absurd c_37 (nI_ne_m1 (by omega))) (fun _ => ?_)
          refine lv_aload_n hx hb dX7_giveCoin_17 rfl (lv_at hl 2 rfl) ?_
          refine pg_get (D := D) (ci := 7) (v := .ref v17_3) (C := RX7) (T := TX7) (N := 6) hx hb hg inG7 hown hK hP ia.1 hM17 rfl 3 (by decide) (hg _ wd_143) (fun _ h9 => h9) rfl dX7_giveCoin_18 ?_
          refine lv_iload_n hx hb dX7_giveCoin_21 rfl (lv_at hl 0 rfl) ?_
          obtain ⟨f38, hM38⟩ := hW.open_70 h17_3
          refine pg_lald hx hb hK hP h17_3.1 1 hM38 rfl (inbN v2w4 100 (by omega) (by omega)) dX7_giveCoin_22 ?_
          refine lv_topl (fun f_39 ef_39 => ?_)
          refine lv_aload_n hx hb dX7_giveCoin_23 rfl (lv_at hl 2 rfl) ?_
          refine pg_get (D := D) (ci := 7) (v := .ref v17_3) (C := RX7) (T := TX7) (N := 6) hx hb hg inG7 hown hK hP ia.1 hM17 rfl 3 (by decide) (hg _ wd_143) (fun _ h9 => h9) rfl dX7_giveCoin_24 ?_
          refine lv_iload_n hx hb dX7_giveCoin_27 rfl (lv_at hl 1 rfl) ?_
          refine pg_lald hx hb hK hP h17_3.1 1 hM38 rfl (inbN j_9 100 (by omega) (by omega)) dX7_giveCoin_28 ?_
          refine lv_topl (fun f_40 ef_40 => ?_)
          refine W.lcmp hx hb dX7_giveCoin_29 ?_
          refine lv_if_le (tgt := 35) hx hb dX7_giveCoin_30 (by decide) (fun c_41 => ?_) (fun c_41 => ?_)
          · have hz := rfl (a := 0)
            have d_42 : f_39 ≤ f_40 := lc_let c_41
            refine lv_iinc (v := (nI (v2w4 + 1))) (lv' := [(2, .int (nI (v2w4 + 1))), (1, .int (nI j_9)), (0, .ref oa)]) hx hb dX7_giveCoin_35 hl (k := 0) rfl (nI_1 v2w4) (by decide) rfl (fun ls hl => ?_)
            refine lv_goto (tgt := 4) hx hb dX7_giveCoin_38 (by decide) ?_
            exact ih_2 (nI j_9) (v2w4 + 1) M_7 H_8 _ _ (by omega) (Or.inr ⟨j_9, by omega, rfl⟩) (by omega) hW hF hP hD hS (lv_sub hl [0, 1, 2] rfl)
          · have hz := rfl (a := 0)
            have d_42 : ¬ f_39 ≤ f_40 := lc_lef c_41
            refine lv_iload_n hx hb dX7_giveCoin_33 rfl (lv_at hl 0 rfl) ?_
            refine lv_istore_n (lv' := [(1, .int (nI v2w4)), (2, .int (nI v2w4)), (0, .ref oa)]) hx hb dX7_giveCoin_34 rfl hl (by decide) rfl (fun ls hl => ?_)
            refine lv_iinc (v := (nI (v2w4 + 1))) (lv' := [(2, .int (nI (v2w4 + 1))), (1, .int (nI v2w4)), (0, .ref oa)]) hx hb dX7_giveCoin_35 hl (k := 1) rfl (nI_1 v2w4) (by decide) rfl (fun ls hl => ?_)
            refine lv_goto (tgt := 4) hx hb dX7_giveCoin_38 (by decide) ?_
            exact ih_2 (nI v2w4) (v2w4 + 1) M_7 H_8 _ _ (by omega) (Or.inr ⟨v2w4, by omega, rfl⟩) (by omega) hW hF hP hD hS (lv_sub hl [0, 1, 2] rfl)
  exact key_1 (100 - 0 + 1) (-1) 0 M s.heap _ _ (by omega) (Or.inl rfl) (by omega) hW hF hP hD hS (lv_sub hl [0, 1, 2] rfl)
set_option maxHeartbeats 4000000 in
set_option maxRecDepth 100000 in
theorem s_X7_cut (l : Launch) (D : va_G) (cy : Nat → ClassId) (K : Kp) (L : List Nat) (M : Hp) (sz : Nat) (oa : Nat) (k1 : Int64) (hW : WOK cy K L M) (ia : isk K L oa 7 0) : Met l yX7_cut (wsM yX7_cut cX7_cut 12 (some .long)) ({ frames := 1, cells := 0, slots := 0, locals := 24 }) (va_Pc [.ref oa, .long k1] (PG D cy [] L M sz)) (va_Ql (fun (r : Int64) (M9 : Hp) => WOK cy K L M9 ∧ fr K L [69, 70] M M9 ∧ (True)) (fun M9 t => PQ D [] L M9 (va_A ([] ++ va_pl L M) sz) t) (va_A ([] ++ va_pl L M) sz)) 0 0 (va_A ([] ++ va_pl L M) sz) := by
  refine Met.ofW (cc := cX7_cut) (maxL := 12) (ret := (some .long)) (by decide) rfl ?_
  intro p e s m args below meth c s₁ B hml hv
  obtain ⟨rfl, hsz, hP, hK, hD0, hN⟩ := hv
  have hx := B.exec
  have hb := B.bytes
  have hr := B.returns
  have hts := atoms_spec (ws := (wsM yX7_cut cX7_cut 12 (some .long))) B.pre
  have hg : ∀ w ∈ lw_good, w.before _ s = true := fun w h => hts w (List.mem_cons_of_mem _ h)
  have hown : s.vm.findClass RX7 = some m.cls := findClass_of_methodNamed B.named
  have hlocks := B.notSynchronized
  subst hsz
  have hD := hD0.self (sz := s.heap.size)
  generalize hAe : va_A ([] ++ va_pl L M) s.heap.size = A at hD ⊢
  have hA : ∀ q : Nat, s.heap.size ≤ q → A q := fun q h => by rw [← hAe]; exact Or.inr h
  have hS : va_S A s.heap s.heap [] := va_S.rf
  have hl := lv_entry ([.ref oa, .long k1]) (n := 12) (Nat.le_of_ble_eq_true rfl)
  rw [lg_entry_eq]
  generalize (lg_sl ([.ref oa, .long k1]) ++ List.replicate (12 - (lg_sl ([.ref oa, .long k1])).length) Slot.unset).toArray = ls at hl ⊢
  refine W.nameQ (fun Q hQ => ?_)
  refine W.nameR (fun R hR => ?_)
  have hRf : 1 ≤ R.frames := by rw [hR]; exact Nat.le_of_ble_eq_true rfl
  have hRl : 24 ≤ R.locals := by rw [hR]; exact Nat.le_of_ble_eq_true rfl
  have hRc : 0 ≤ R.cells := by rw [hR]; exact Nat.le_of_ble_eq_true rfl
  have hRs : 0 ≤ R.slots := by rw [hR]; exact Nat.le_of_ble_eq_true rfl
  have hF : fr K L [69, 70] M M := fr.rf
  have hl : lv_has ls 12 [(0, .ref oa), (1, .long k1)] := hl
  refine lv_aload_n hx hb dX7_cut_0 rfl (lv_at hl 0 rfl) ?_
  obtain ⟨v1_0, v1_1, v1_2, v1_3, v1_4, v1_5, hM1, h1_0, h1_1, h1_2, h1_3, h1_4, h1_5⟩ := hW.open_7 ia
  have hPc : va_P D vwCl ([] ++ va_pl L M) s.heap := hP
  have hDc : va_D A ([] ++ va_pl L M) := hD
  have hFc : ∀ q, va_A ([] ++ va_pl L M) s.heap.size q → A q := pg_free hDc hS hA
  refine va_calll (va_runV (As := []) (rest := []) ⟨hx, hb, hml, hown, hg⟩ (s_X7_totalWeight l D cy K L M s.heap.size oa  hW ia) (cwV 0 hg (gV wd_145 wd_146 wd_147 wd_148 wd_149) rfl rfl rfl (by decide +kernel) ⟨(Nat.le_trans (Nat.le_of_ble_eq_true rfl) hRf), (Nat.le_trans (Nat.le_of_ble_eq_true rfl) hRl)⟩) ⟨PG.blind, pg_recv hK hP ia.1 hM1 rfl, fun U hU hW => ⟨rfl, PG.at hPc hK hDc hN hU hW⟩⟩ rfl rfl hl.1 rfl (lv_room (Nat.le_of_ble_eq_true rfl)) dX7_cut_1 ⟨(Nat.le_trans (Nat.le_of_ble_eq_true rfl) hRc), (Nat.le_trans (Nat.le_of_ble_eq_true rfl) hRs)⟩) hS (fun q _ h => hFc q h) hFc (fun r_3 M_4 t H_2 locs ht hvm hw hB hz1 hk1 hS => ?_)
  have hp_5 := hw
  obtain ⟨hP1, hD1⟩ := hB
  rw [ht] at hP1
  have hP : va_P D vwCl ([] ++ va_pl L M) H_2 := hP1
  have hD : va_D A ([] ++ va_pl L M) := hD1.mono hFc
  refine lv_lstore_n (lv' := [(3, .long r_3), (0, .ref oa), (1, .long k1)]) hx hb dX7_cut_4 rfl hl (by decide) rfl (fun ls hl => ?_)
  refine lv_lload_n hx hb dX7_cut_5 rfl (lv_at hl 0 rfl) ?_
  refine lv_lconst (v := 0) hx hb dX7_cut_6 (by decide) ?_
  refine W.lcmp hx hb dX7_cut_7 ?_
  refine lv_if_gt (tgt := 21) hx hb dX7_cut_8 (by decide) (fun c_6 => ?_) (fun c_6 => ?_)
  · have hz := rfl (a := 0)
    have d_7 : 0 < r_3 := lc_gtt c_6
    refine lv_lload_n hx hb dX7_cut_21 rfl (lv_at hl 2 rfl) ?_
    refine va_mabs_long hx hb (by rw [hml]; exact hl.1.symm) hown (hg _ wd_150) (hg _ wd_151) (hg _ wd_12) (hg _ wd_152) (Nat.le_trans (Nat.le_of_ble_eq_true rfl) hRf) (Nat.le_trans (Nat.le_of_ble_eq_true rfl) hRl) (Nat.le_trans (Nat.le_of_ble_eq_true rfl) hRc) (Nat.le_trans (Nat.le_of_ble_eq_true rfl) hRs) dX7_cut_22 ?_
    refine lv_topl (fun f_8 ef_8 => ?_)
    refine lv_lstore (lv' := [(5, .long f_8), (3, .long r_3), (0, .ref oa), (1, .long k1)]) hx hb dX7_cut_25 hl (by decide) rfl (fun ls hl => ?_)
    refine lv_lload hx hb dX7_cut_27 (lv_at hl 0 rfl) ?_
    refine lv_lstore (lv' := [(7, .long f_8), (5, .long f_8), (3, .long r_3), (0, .ref oa), (1, .long k1)]) hx hb dX7_cut_29 hl (by decide) rfl (fun ls hl => ?_)
    refine lv_iconst (v := 0) hx hb dX7_cut_31 (by decide) ?_
    refine lv_istore (lv' := [(9, .int 0), (7, .long f_8), (5, .long f_8), (3, .long r_3), (0, .ref oa), (1, .long k1)]) hx hb dX7_cut_32 hl (by decide) rfl (fun ls hl => ?_)
    have key_9 : ∀ (fu_11 : Nat) (v7w12 : Int64) (v9w12 : Nat) (M_14 : Hp) (H_15 : Heap) (locs : List Loc) (ls : Array Slot), 100 - v9w12 < fu_11 → v9w12 ≤ 100 → WOK cy K L M_14 → fr K L [69, 70] M M_14 → va_P D vwCl ([] ++ va_pl L M_14) H_15 → va_D A ([] ++ va_pl L M_14) → va_S A s.heap H_15 locs → lv_has ls 12 [(9, .int (nI v9w12)), (7, .long v7w12), (5, .long f_8), (3, .long r_3), (0, .ref oa), (1, .long k1)] → W p l e R s m ([.ref oa, .long k1] : List Value).toArray below meth c H_15 locs 0 0 Q (F0 m 34 ls []) := by
      intro fu_11
      induction fu_11 with
      | zero => intro v7w12 v9w12 M_14 H_15 locs ls h; exact absurd h (Nat.not_lt_zero _)
      | succ fu_11 ih_10 =>
        intro v7w12 v9w12 M_14 H_15 locs ls hfu hx_13 hW hF hP hD hS hl
        refine lv_iload hx hb dX7_cut_34 (lv_at hl 0 rfl) ?_
        refine lv_aload_n hx hb dX7_cut_36 rfl (lv_at hl 4 rfl) ?_
        obtain ⟨v16_0, v16_1, v16_2, v16_3, v16_4, v16_5, hM16, h16_0, h16_1, h16_2, h16_3, h16_4, h16_5⟩ := hW.open_7 ia
        refine pg_get (D := D) (ci := 7) (v := .int (nI v16_5)) (C := RX7) (T := TX7) (N := 6) hx hb hg inG7 hown hK hP ia.1 hM16 rfl 5 (by decide) (hg _ wd_139) (fun _ h9 => h9) rfl dX7_cut_37 ?_
        refine lv_icmp_ge (tgt := 95) hx hb dX7_cut_40 (by decide) (fun c_17 => ?_) (fun c_17 => ?_)
        · have hz := rfl (a := 0)
          have n_18 : v16_5 ≤ v9w12 := (iLE (a := v16_5) (b := v9w12) (by omega) (by omega)).mp c_17
          refine lv_iconst (v := 0) hx hb dX7_cut_95 (by decide) ?_
          refine lv_istore (lv' := [(9, .int 0), (7, .long v7w12), (5, .long f_8), (3, .long r_3), (0, .ref oa), (1, .long k1)]) hx hb dX7_cut_96 hl (by decide) rfl (fun ls hl => ?_)
          have key_19 : ∀ (fu_21 : Nat) (v9w22 : Nat) (M_24 : Hp) (H_25 : Heap) (locs : List Loc) (ls : Array Slot), 100 - v9w22 < fu_21 → v9w22 ≤ 100 → WOK cy K L M_24 → fr K L [69, 70] M M_24 → va_P D vwCl ([] ++ va_pl L M_24) H_25 → va_D A ([] ++ va_pl L M_24) → va_S A s.heap H_25 locs → lv_has ls 12 [(9, .int (nI v9w22)), (7, .long v7w12), (5, .long f_8), (3, .long r_3), (0, .ref oa), (1, .long k1)] → W p l e R s m ([.ref oa, .long k1] : List Value).toArray below meth c H_25 locs 0 0 Q (F0 m 98 ls []) := by
            intro fu_21
            induction fu_21 with
            | zero => intro v9w22 M_24 H_25 locs ls h; exact absurd h (Nat.not_lt_zero _)
            | succ fu_21 ih_20 =>
              intro v9w22 M_24 H_25 locs ls hfu hx_23 hW hF hP hD hS hl
              refine lv_iload hx hb dX7_cut_98 (lv_at hl 0 rfl) ?_
              refine lv_aload_n hx hb dX7_cut_100 rfl (lv_at hl 4 rfl) ?_
              obtain ⟨v26_0, v26_1, v26_2, v26_3, v26_4, v26_5, hM26, h26_0, h26_1, h26_2, h26_3, h26_4, h26_5⟩ := hW.open_7 ia
              refine pg_get (D := D) (ci := 7) (v := .int (nI v26_5)) (C := RX7) (T := TX7) (N := 6) hx hb hg inG7 hown hK hP ia.1 hM26 rfl 5 (by decide) (hg _ wd_139) (fun _ h9 => h9) rfl dX7_cut_101 ?_
              refine lv_icmp_ge (tgt := 126) hx hb dX7_cut_104 (by decide) (fun c_27 => ?_) (fun c_27 => ?_)
              · have hz := rfl (a := 0)
                have n_28 : v26_5 ≤ v9w22 := (iLE (a := v26_5) (b := v9w22) (by omega) (by omega)).mp c_27
                refine lv_lload_n hx hb dX7_cut_126 rfl (lv_at hl 5 rfl) ?_
                refine lv_lconst (v := 0) hx hb dX7_cut_127 (by decide) ?_
                refine W.lcmp hx hb dX7_cut_128 ?_
                refine lv_if_ge (tgt := 165) hx hb dX7_cut_129 (by decide) (fun c_29 => ?_) (fun c_29 => ?_)
                · have hz := rfl (a := 0)
                  refine lv_lload_n hx hb dX7_cut_165 rfl (lv_at hl 5 rfl) ?_
                  rw [hQ]
                  exact W.lret (v := k1) hx hb hr (fun t ht hW9 => ⟨⟨k1, M_24, rfl, ⟨hW, hF, trivial⟩, ⟨by rw [ht]; exact hP, hD⟩⟩, hS.F ht⟩) hS.2.2 dX7_cut_166
                · have hz := rfl (a := 0)
                  refine lv_iconst (v := 0) hx hb dX7_cut_132 (by decide) ?_
                  refine lv_istore (lv' := [(9, .int 0), (7, .long v7w12), (5, .long f_8), (3, .long r_3), (0, .ref oa), (1, .long k1)]) hx hb dX7_cut_133 hl (by decide) rfl (fun ls hl => ?_)
                  have key_31 : ∀ (fu_33 : Nat) (v9w34 : Nat) (M_36 : Hp) (H_37 : Heap) (locs : List Loc) (ls : Array Slot), 100 - v9w34 < fu_33 → v9w34 ≤ 100 → WOK cy K L M_36 → fr K L [69, 70] M M_36 → va_P D vwCl ([] ++ va_pl L M_36) H_37 → va_D A ([] ++ va_pl L M_36) → va_S A s.heap H_37 locs → lv_has ls 12 [(9, .int (nI v9w34)), (7, .long v7w12), (5, .long f_8), (3, .long r_3), (0, .ref oa), (1, .long k1)] → W p l e R s m ([.ref oa, .long k1] : List Value).toArray below meth c H_37 locs 0 0 Q (F0 m 135 ls []) := by
                    intro fu_33
                    induction fu_33 with
                    | zero => intro v9w34 M_36 H_37 locs ls h; exact absurd h (Nat.not_lt_zero _)
                    | succ fu_33 ih_32 =>
                      intro v9w34 M_36 H_37 locs ls hfu hx_35 hW hF hP hD hS hl
                      refine lv_iload hx hb dX7_cut_135 (lv_at hl 0 rfl) ?_
                      refine lv_aload_n hx hb dX7_cut_137 rfl (lv_at hl 4 rfl) ?_
                      obtain ⟨v38_0, v38_1, v38_2, v38_3, v38_4, v38_5, hM38, h38_0, h38_1, h38_2, h38_3, h38_4, h38_5⟩ := hW.open_7 ia
                      refine pg_get (D := D) (ci := 7) (v := .int (nI v38_5)) (C := RX7) (T := TX7) (N := 6) hx hb hg inG7 hown hK hP ia.1 hM38 rfl 5 (by decide) (hg _ wd_139) (fun _ h9 => h9) rfl dX7_cut_138 ?_
                      refine lv_icmp_ge (tgt := 165) hx hb dX7_cut_141 (by decide) (fun c_39 => ?_) (fun c_39 => ?_)
                      · have hz := rfl (a := 0)
                        have n_40 : v38_5 ≤ v9w34 := (iLE (a := v38_5) (b := v9w34) (by omega) (by omega)).mp c_39
                        refine lv_lload_n hx hb dX7_cut_165 rfl (lv_at hl 5 rfl) ?_
                        rw [hQ]
                        exact W.lret (v := k1) hx hb hr (fun t ht hW9 => ⟨⟨k1, M_36, rfl, ⟨hW, hF, trivial⟩, ⟨by rw [ht]; exact hP, hD⟩⟩, hS.F ht⟩) hS.2.2 dX7_cut_166
                      · have hz := rfl (a := 0)
                        have n_41 : ¬ (v38_5 ≤ v9w34) := fun q => c_39 ((iLE (a := v38_5) (b := v9w34) (by omega) (by omega)).mpr q)
                        refine lv_aload_n hx hb dX7_cut_144 rfl (lv_at hl 4 rfl) ?_
                        refine pg_get (D := D) (ci := 7) (v := .ref v38_2) (C := RX7) (T := TX7) (N := 6) hx hb hg inG7 hown hK hP ia.1 hM38 rfl 2 (by decide) (hg _ wd_142) (fun _ h9 => h9) rfl dX7_cut_145 ?_
                        refine lv_iload hx hb dX7_cut_148 (lv_at hl 0 rfl) ?_
                        refine lv_aload_n hx hb dX7_cut_150 rfl (lv_at hl 4 rfl) ?_
                        refine pg_get (D := D) (ci := 7) (v := .ref v38_2) (C := RX7) (T := TX7) (N := 6) hx hb hg inG7 hown hK hP ia.1 hM38 rfl 2 (by decide) (hg _ wd_142) (fun _ h9 => h9) rfl dX7_cut_151 ?_
                        refine lv_iload hx hb dX7_cut_154 (lv_at hl 0 rfl) ?_
                        obtain ⟨f42, hM42⟩ := hW.open_69 h38_2
                        refine pg_lald hx hb hK hP h38_2.1 1 hM42 rfl (inbN v9w34 100 (by omega) (by omega)) dX7_cut_156 ?_
                        refine lv_topl (fun f_43 ef_43 => ?_)
                        refine lv_lneg hx hb dX7_cut_157 ?_
                        refine lv_topl (fun f_44 ef_44 => ?_)
                        refine pg_last hx hb hK hP hD hS h38_2.1 1 hM42 rfl (inbN v9w34 100 (by omega) (by omega)) dX7_cut_158 (fun H_45 locs hP hD hS => ?_)
                        obtain ⟨M_46, eM_46⟩ : ∃ M1 : Hp, M1 = va_up M_36 v38_2 (.inl (cy 15, 100, .inr (.inl (vp_updL f42 ((nI v9w34) : Int32).toNatClampNeg f_44)))) := ⟨_, rfl⟩
                        have hP : va_P D vwCl ([] ++ va_pl L M_46) H_45 := by rw [eM_46]; exact hP
                        have hD : va_D A ([] ++ va_pl L M_46) := by rw [eM_46]; exact hD
                        have hW : WOK cy K L M_46 := by rw [eM_46]; exact hW.up_69 h38_2 ⟨_, rfl⟩
                        have hF : fr K L [69, 70] M M_46 := by rw [eM_46]; exact hF.up h38_2 (by decide)
                        have hM_47 : M_46 v38_2 = .inl (cy 15, 100, .inr (.inl (vp_updL f42 ((nI v9w34) : Int32).toNatClampNeg f_44))) := by rw [eM_46]; exact va_up_self _ _ _
                        have hM_48 : M_46 oa = (b7_8 v38_0 v38_1 v38_2 v38_3 v38_4 (nI v38_5)) := by rw [eM_46, va_up_ne _ _ (ia.neT h38_2 (by decide))]; exact hM38
                        obtain ⟨f_49, ef_49⟩ : ∃ f : Nat → Int64, f = vp_updL f42 ((nI v9w34) : Int32).toNatClampNeg f_44 := ⟨_, rfl⟩
                        rw [← ef_49] at hM_47
                        clear ef_49
                        refine lv_iinc (v := (nI (v9w34 + 1))) (lv' := [(9, .int (nI (v9w34 + 1))), (7, .long v7w12), (5, .long f_8), (3, .long r_3), (0, .ref oa), (1, .long k1)]) hx hb dX7_cut_159 hl (k := 0) rfl (nI_1 v9w34) (by decide) rfl (fun ls hl => ?_)
                        refine lv_goto (tgt := 135) hx hb dX7_cut_162 (by decide) ?_
                        exact ih_32 (v9w34 + 1) M_46 H_45 _ _ (by omega) (by omega) hW hF hP hD hS (lv_sub hl [0, 1, 2, 3, 4, 5] rfl)
                  exact key_31 (100 - 0 + 1) 0 M_24 H_25 _ _ (by omega) (by omega) hW hF hP hD hS (lv_sub hl [0, 1, 2, 3, 4, 5] rfl)
              · have hz := rfl (a := 0)
                have n_50 : ¬ (v26_5 ≤ v9w22) := fun q => c_27 ((iLE (a := v26_5) (b := v9w22) (by omega) (by omega)).mpr q)
                refine lv_iload hx hb dX7_cut_107 (lv_at hl 0 rfl) ?_
                refine lv_i2l hx hb dX7_cut_109 rfl ?_
                refine lv_topl (fun f_51 ef_51 => ?_)
                refine lv_lload hx hb dX7_cut_110 (lv_at hl 1 rfl) ?_
                refine W.lcmp hx hb dX7_cut_112 ?_
                refine lv_if_ge (tgt := 126) hx hb dX7_cut_113 (by decide) (fun c_52 => ?_) (fun c_52 => ?_)
                · have hz := rfl (a := 0)
                  refine lv_lload_n hx hb dX7_cut_126 rfl (lv_at hl 5 rfl) ?_
                  refine lv_lconst (v := 0) hx hb dX7_cut_127 (by decide) ?_
                  refine W.lcmp hx hb dX7_cut_128 ?_
                  refine lv_if_ge (tgt := 165) hx hb dX7_cut_129 (by decide) (fun c_54 => ?_) (fun c_54 => ?_)
                  · have hz := rfl (a := 0)
                    refine lv_lload_n hx hb dX7_cut_165 rfl (lv_at hl 5 rfl) ?_
                    rw [hQ]
                    exact W.lret (v := k1) hx hb hr (fun t ht hW9 => ⟨⟨k1, M_24, rfl, ⟨hW, hF, trivial⟩, ⟨by rw [ht]; exact hP, hD⟩⟩, hS.F ht⟩) hS.2.2 dX7_cut_166
                  · have hz := rfl (a := 0)
                    refine lv_iconst (v := 0) hx hb dX7_cut_132 (by decide) ?_
                    refine lv_istore (lv' := [(9, .int 0), (7, .long v7w12), (5, .long f_8), (3, .long r_3), (0, .ref oa), (1, .long k1)]) hx hb dX7_cut_133 hl (by decide) rfl (fun ls hl => ?_)
                    have key_56 : ∀ (fu_58 : Nat) (v9w59 : Nat) (M_61 : Hp) (H_62 : Heap) (locs : List Loc) (ls : Array Slot), 100 - v9w59 < fu_58 → v9w59 ≤ 100 → WOK cy K L M_61 → fr K L [69, 70] M M_61 → va_P D vwCl ([] ++ va_pl L M_61) H_62 → va_D A ([] ++ va_pl L M_61) → va_S A s.heap H_62 locs → lv_has ls 12 [(9, .int (nI v9w59)), (7, .long v7w12), (5, .long f_8), (3, .long r_3), (0, .ref oa), (1, .long k1)] → W p l e R s m ([.ref oa, .long k1] : List Value).toArray below meth c H_62 locs 0 0 Q (F0 m 135 ls []) := by
                      intro fu_58
                      induction fu_58 with
                      | zero => intro v9w59 M_61 H_62 locs ls h; exact absurd h (Nat.not_lt_zero _)
                      | succ fu_58 ih_57 =>
                        intro v9w59 M_61 H_62 locs ls hfu hx_60 hW hF hP hD hS hl
                        refine lv_iload hx hb dX7_cut_135 (lv_at hl 0 rfl) ?_
                        refine lv_aload_n hx hb dX7_cut_137 rfl (lv_at hl 4 rfl) ?_
                        obtain ⟨v63_0, v63_1, v63_2, v63_3, v63_4, v63_5, hM63, h63_0, h63_1, h63_2, h63_3, h63_4, h63_5⟩ := hW.open_7 ia
                        refine pg_get (D := D) (ci := 7) (v := .int (nI v63_5)) (C := RX7) (T := TX7) (N := 6) hx hb hg inG7 hown hK hP ia.1 hM63 rfl 5 (by decide) (hg _ wd_139) (fun _ h9 => h9) rfl dX7_cut_138 ?_
                        refine lv_icmp_ge (tgt := 165) hx hb dX7_cut_141 (by decide) (fun c_64 => ?_) (fun c_64 => ?_)
                        · have hz := rfl (a := 0)
                          have n_65 : v63_5 ≤ v9w59 := (iLE (a := v63_5) (b := v9w59) (by omega) (by omega)).mp c_64
                          refine lv_lload_n hx hb dX7_cut_165 rfl (lv_at hl 5 rfl) ?_
                          rw [hQ]
                          exact W.lret (v := k1) hx hb hr (fun t ht hW9 => ⟨⟨k1, M_61, rfl, ⟨hW, hF, trivial⟩, ⟨by rw [ht]; exact hP, hD⟩⟩, hS.F ht⟩) hS.2.2 dX7_cut_166
                        · have hz := rfl (a := 0)
                          have n_66 : ¬ (v63_5 ≤ v9w59) := fun q => c_64 ((iLE (a := v63_5) (b := v9w59) (by omega) (by omega)).mpr q)
                          refine lv_aload_n hx hb dX7_cut_144 rfl (lv_at hl 4 rfl) ?_
                          refine pg_get (D := D) (ci := 7) (v := .ref v63_2) (C := RX7) (T := TX7) (N := 6) hx hb hg inG7 hown hK hP ia.1 hM63 rfl 2 (by decide) (hg _ wd_142) (fun _ h9 => h9) rfl dX7_cut_145 ?_
                          refine lv_iload hx hb dX7_cut_148 (lv_at hl 0 rfl) ?_
                          refine lv_aload_n hx hb dX7_cut_150 rfl (lv_at hl 4 rfl) ?_
                          refine pg_get (D := D) (ci := 7) (v := .ref v63_2) (C := RX7) (T := TX7) (N := 6) hx hb hg inG7 hown hK hP ia.1 hM63 rfl 2 (by decide) (hg _ wd_142) (fun _ h9 => h9) rfl dX7_cut_151 ?_
                          refine lv_iload hx hb dX7_cut_154 (lv_at hl 0 rfl) ?_
                          obtain ⟨f67, hM67⟩ := hW.open_69 h63_2
                          refine pg_lald hx hb hK hP h63_2.1 1 hM67 rfl (inbN v9w59 100 (by omega) (by omega)) dX7_cut_156 ?_
                          refine lv_topl (fun f_68 ef_68 => ?_)
                          refine lv_lneg hx hb dX7_cut_157 ?_
                          refine lv_topl (fun f_69 ef_69 => ?_)
                          refine pg_last hx hb hK hP hD hS h63_2.1 1 hM67 rfl (inbN v9w59 100 (by omega) (by omega)) dX7_cut_158 (fun H_70 locs hP hD hS => ?_)
                          obtain ⟨M_71, eM_71⟩ : ∃ M1 : Hp, M1 = va_up M_61 v63_2 (.inl (cy 15, 100, .inr (.inl (vp_updL f67 ((nI v9w59) : Int32).toNatClampNeg f_69)))) := ⟨_, rfl⟩
                          have hP : va_P D vwCl ([] ++ va_pl L M_71) H_70 := by rw [eM_71]; exact hP
                          have hD : va_D A ([] ++ va_pl L M_71) := by rw [eM_71]; exact hD
                          have hW : WOK cy K L M_71 := by rw [eM_71]; exact hW.up_69 h63_2 ⟨_, rfl⟩
                          have hF : fr K L [69, 70] M M_71 := by rw [eM_71]; exact hF.up h63_2 (by decide)
                          have hM_72 : M_71 v63_2 = .inl (cy 15, 100, .inr (.inl (vp_updL f67 ((nI v9w59) : Int32).toNatClampNeg f_69))) := by rw [eM_71]; exact va_up_self _ _ _
                          have hM_73 : M_71 oa = (b7_8 v63_0 v63_1 v63_2 v63_3 v63_4 (nI v63_5)) := by rw [eM_71, va_up_ne _ _ (ia.neT h63_2 (by decide))]; exact hM63
                          obtain ⟨f_74, ef_74⟩ : ∃ f : Nat → Int64, f = vp_updL f67 ((nI v9w59) : Int32).toNatClampNeg f_69 := ⟨_, rfl⟩
                          rw [← ef_74] at hM_72
                          clear ef_74
                          refine lv_iinc (v := (nI (v9w59 + 1))) (lv' := [(9, .int (nI (v9w59 + 1))), (7, .long v7w12), (5, .long f_8), (3, .long r_3), (0, .ref oa), (1, .long k1)]) hx hb dX7_cut_159 hl (k := 0) rfl (nI_1 v9w59) (by decide) rfl (fun ls hl => ?_)
                          refine lv_goto (tgt := 135) hx hb dX7_cut_162 (by decide) ?_
                          exact ih_57 (v9w59 + 1) M_71 H_70 _ _ (by omega) (by omega) hW hF hP hD hS (lv_sub hl [0, 1, 2, 3, 4, 5] rfl)
                    exact key_56 (100 - 0 + 1) 0 M_24 H_25 _ _ (by omega) (by omega) hW hF hP hD hS (lv_sub hl [0, 1, 2, 3, 4, 5] rfl)
                · have hz := rfl (a := 0)
                  refine lv_aload_n hx hb dX7_cut_116 rfl (lv_at hl 4 rfl) ?_
                  have hPc : va_P D vwCl ([] ++ va_pl L M_24) H_25 := hP
                  have hDc : va_D A ([] ++ va_pl L M_24) := hD
                  have hFc : ∀ q, va_A ([] ++ va_pl L M_24) H_25.size q → A q := pg_free hDc hS hA
                  refine va_callv (va_runV (As := []) (rest := []) ⟨hx, hb, hml, hown, hg⟩ (s_X7_giveCoin l D cy K L M_24 H_25.size oa  hW ia) (cwV 0 hg (gV wd_153 wd_154 wd_155 wd_148 wd_156) rfl rfl rfl (by decide +kernel) ⟨(Nat.le_trans (Nat.le_of_ble_eq_true rfl) hRf), (Nat.le_trans (Nat.le_of_ble_eq_true rfl) hRl)⟩) ⟨PG.blind, pg_recv hK hP ia.1 hM26 rfl, fun U hU hW => ⟨rfl, PG.at hPc hK hDc hN hU hW⟩⟩ rfl rfl hl.1 rfl (lv_room (Nat.le_of_ble_eq_true rfl)) dX7_cut_117 ⟨(Nat.le_trans (Nat.le_of_ble_eq_true rfl) hRc), (Nat.le_trans (Nat.le_of_ble_eq_true rfl) hRs)⟩) hS (fun q _ h => hFc q h) hFc (fun M_77 t H_75 locs ht hvm hw hB hz1 hk1 hS => ?_)
                  obtain ⟨hW, hF2, hp_78⟩ := hw
                  obtain ⟨hP1, hD1⟩ := hB
                  rw [ht] at hP1
                  have hP : va_P D vwCl ([] ++ va_pl L M_77) H_75 := hP1
                  have hD : va_D A ([] ++ va_pl L M_77) := hD1.mono hFc
                  have hM_79 : M_77 oa = (b7_8 v26_0 v26_1 v26_2 v26_3 v26_4 (nI v26_5)) := (hF2.at ia (by decide)).trans hM26
                  have hF : fr K L [69, 70] M M_77 := hF.tr hF2 (by decide)
                  refine lv_iinc (v := (nI (v9w22 + 1))) (lv' := [(9, .int (nI (v9w22 + 1))), (7, .long v7w12), (5, .long f_8), (3, .long r_3), (0, .ref oa), (1, .long k1)]) hx hb dX7_cut_120 hl (k := 0) rfl (nI_1 v9w22) (by decide) rfl (fun ls hl => ?_)
                  refine lv_goto (tgt := 98) hx hb dX7_cut_123 (by decide) ?_
                  exact ih_20 (v9w22 + 1) M_77 H_75 _ _ (by omega) (by omega) hW hF hP hD hS (lv_sub hl [0, 1, 2, 3, 4, 5] rfl)
          exact key_19 (100 - 0 + 1) 0 M_14 H_15 _ _ (by omega) (by omega) hW hF hP hD hS (lv_sub hl [0, 1, 2, 3, 4, 5] rfl)
        · have hz := rfl (a := 0)
          have n_80 : ¬ (v16_5 ≤ v9w12) := fun q => c_17 ((iLE (a := v16_5) (b := v9w12) (by omega) (by omega)).mpr q)
          refine lv_lload hx hb dX7_cut_43 (lv_at hl 2 rfl) ?_
          refine lv_aload_n hx hb dX7_cut_45 rfl (lv_at hl 4 rfl) ?_
          refine pg_get (D := D) (ci := 7) (v := .ref v16_1) (C := RX7) (T := TX7) (N := 6) hx hb hg inG7 hown hK hP ia.1 hM16 rfl 1 (by decide) (hg _ wd_141) (fun _ h9 => h9) rfl dX7_cut_46 ?_
          refine lv_iload hx hb dX7_cut_49 (lv_at hl 0 rfl) ?_
          obtain ⟨f81, hM81⟩ := hW.open_68 h16_1
          refine pg_lald hx hb hK hP h16_1.1 1 hM81 rfl (inbN v9w12 100 (by omega) (by omega)) dX7_cut_51 ?_
          refine lv_topl (fun f_82 ef_82 => ?_)
          refine lv_lmul hx hb dX7_cut_52 ?_
          refine lv_topl (fun f_83 ef_83 => ?_)
          refine lv_lstore (lv' := [(10, .long f_83), (9, .int (nI v9w12)), (7, .long v7w12), (5, .long f_8), (3, .long r_3), (0, .ref oa), (1, .long k1)]) hx hb dX7_cut_53 hl (by decide) rfl (fun ls hl => ?_)
          refine lv_aload_n hx hb dX7_cut_55 rfl (lv_at hl 5 rfl) ?_
          refine pg_get (D := D) (ci := 7) (v := .ref v16_2) (C := RX7) (T := TX7) (N := 6) hx hb hg inG7 hown hK hP ia.1 hM16 rfl 2 (by decide) (hg _ wd_142) (fun _ h9 => h9) rfl dX7_cut_56 ?_
          refine lv_iload hx hb dX7_cut_59 (lv_at hl 1 rfl) ?_
          refine lv_lload hx hb dX7_cut_61 (lv_at hl 0 rfl) ?_
          refine lv_lload_n hx hb dX7_cut_63 rfl (lv_at hl 4 rfl) ?_
          refine lv_ldiv hx hb dX7_cut_64 (fun q => absurd d_7 (by rw [q]; decide)) ?_
          refine lv_topl (fun f_84 ef_84 => ?_)
          obtain ⟨f85, hM85⟩ := hW.open_69 h16_2
          refine pg_last hx hb hK hP hD hS h16_2.1 1 hM85 rfl (inbN v9w12 100 (by omega) (by omega)) dX7_cut_65 (fun H_86 locs hP hD hS => ?_)
          obtain ⟨M_87, eM_87⟩ : ∃ M1 : Hp, M1 = va_up M_14 v16_2 (.inl (cy 15, 100, .inr (.inl (vp_updL f85 ((nI v9w12) : Int32).toNatClampNeg f_84)))) := ⟨_, rfl⟩
          have hP : va_P D vwCl ([] ++ va_pl L M_87) H_86 := by rw [eM_87]; exact hP
          have hD : va_D A ([] ++ va_pl L M_87) := by rw [eM_87]; exact hD
          have hW : WOK cy K L M_87 := by rw [eM_87]; exact hW.up_69 h16_2 ⟨_, rfl⟩
          have hF : fr K L [69, 70] M M_87 := by rw [eM_87]; exact hF.up h16_2 (by decide)
          have hM_88 : M_87 v16_2 = .inl (cy 15, 100, .inr (.inl (vp_updL f85 ((nI v9w12) : Int32).toNatClampNeg f_84))) := by rw [eM_87]; exact va_up_self _ _ _
          have hM_89 : M_87 oa = (b7_8 v16_0 v16_1 v16_2 v16_3 v16_4 (nI v16_5)) := by rw [eM_87, va_up_ne _ _ (ia.neT h16_2 (by decide))]; exact hM16
          have hM_90 : M_87 v16_1 = .inl (cy 15, 100, .inr (.inl (f81))) := by rw [eM_87, va_up_ne _ _ (h16_1.neT h16_2 (by decide))]; exact hM81
          obtain ⟨f_91, ef_91⟩ : ∃ f : Nat → Int64, f = vp_updL f85 ((nI v9w12) : Int32).toNatClampNeg f_84 := ⟨_, rfl⟩
          rw [← ef_91] at hM_88
          clear ef_91
          refine lv_aload_n hx hb dX7_cut_66 rfl (lv_at hl 5 rfl) ?_
          refine pg_get (D := D) (ci := 7) (v := .ref v16_3) (C := RX7) (T := TX7) (N := 6) hx hb hg inG7 hown hK hP ia.1 hM_89 rfl 3 (by decide) (hg _ wd_143) (fun _ h9 => h9) rfl dX7_cut_67 ?_
          refine lv_iload hx hb dX7_cut_70 (lv_at hl 1 rfl) ?_
          refine lv_lload hx hb dX7_cut_72 (lv_at hl 0 rfl) ?_
          refine lv_lload_n hx hb dX7_cut_74 rfl (lv_at hl 4 rfl) ?_
          refine lv_lrem hx hb dX7_cut_75 (fun q => absurd d_7 (by rw [q]; decide)) ?_
          refine lv_topl (fun f_92 ef_92 => ?_)
          obtain ⟨f93, hM93⟩ := hW.open_70 h16_3
          refine pg_last hx hb hK hP hD hS h16_3.1 1 hM93 rfl (inbN v9w12 100 (by omega) (by omega)) dX7_cut_76 (fun H_94 locs hP hD hS => ?_)
          obtain ⟨M_95, eM_95⟩ : ∃ M1 : Hp, M1 = va_up M_87 v16_3 (.inl (cy 15, 100, .inr (.inl (vp_updL f93 ((nI v9w12) : Int32).toNatClampNeg f_92)))) := ⟨_, rfl⟩
          have hP : va_P D vwCl ([] ++ va_pl L M_95) H_94 := by rw [eM_95]; exact hP
          have hD : va_D A ([] ++ va_pl L M_95) := by rw [eM_95]; exact hD
          have hW : WOK cy K L M_95 := by rw [eM_95]; exact hW.up_70 h16_3 ⟨_, rfl⟩
          have hF : fr K L [69, 70] M M_95 := by rw [eM_95]; exact hF.up h16_3 (by decide)
          have hM_96 : M_95 v16_3 = .inl (cy 15, 100, .inr (.inl (vp_updL f93 ((nI v9w12) : Int32).toNatClampNeg f_92))) := by rw [eM_95]; exact va_up_self _ _ _
          have hM_97 : M_95 v16_2 = .inl (cy 15, 100, .inr (.inl (f_91))) := by rw [eM_95, va_up_ne _ _ (h16_2.neT h16_3 (by decide))]; exact hM_88
          have hM_98 : M_95 oa = (b7_8 v16_0 v16_1 v16_2 v16_3 v16_4 (nI v16_5)) := by rw [eM_95, va_up_ne _ _ (ia.neT h16_3 (by decide))]; exact hM_89
          have hM_99 : M_95 v16_1 = .inl (cy 15, 100, .inr (.inl (f81))) := by rw [eM_95, va_up_ne _ _ (h16_1.neT h16_3 (by decide))]; exact hM_90
          obtain ⟨f_100, ef_100⟩ : ∃ f : Nat → Int64, f = vp_updL f93 ((nI v9w12) : Int32).toNatClampNeg f_92 := ⟨_, rfl⟩
          rw [← ef_100] at hM_96
          clear ef_100
          refine lv_lload hx hb dX7_cut_77 (lv_at hl 2 rfl) ?_
          refine lv_aload_n hx hb dX7_cut_79 rfl (lv_at hl 5 rfl) ?_
          refine pg_get (D := D) (ci := 7) (v := .ref v16_2) (C := RX7) (T := TX7) (N := 6) hx hb hg inG7 hown hK hP ia.1 hM_98 rfl 2 (by decide) (hg _ wd_142) (fun _ h9 => h9) rfl dX7_cut_80 ?_
          refine lv_iload hx hb dX7_cut_83 (lv_at hl 1 rfl) ?_
          refine pg_lald hx hb hK hP h16_2.1 1 hM_97 rfl (inbN v9w12 100 (by omega) (by omega)) dX7_cut_85 ?_
          refine lv_topl (fun f_101 ef_101 => ?_)
          refine lv_lsub hx hb dX7_cut_86 ?_
          refine lv_topl (fun f_102 ef_102 => ?_)
          refine lv_lstore (lv' := [(7, .long f_102), (10, .long f_83), (9, .int (nI v9w12)), (5, .long f_8), (3, .long r_3), (0, .ref oa), (1, .long k1)]) hx hb dX7_cut_87 hl (by decide) rfl (fun ls hl => ?_)
          refine lv_iinc (v := (nI (v9w12 + 1))) (lv' := [(9, .int (nI (v9w12 + 1))), (7, .long f_102), (10, .long f_83), (5, .long f_8), (3, .long r_3), (0, .ref oa), (1, .long k1)]) hx hb dX7_cut_89 hl (k := 2) rfl (nI_1 v9w12) (by decide) rfl (fun ls hl => ?_)
          refine lv_goto (tgt := 34) hx hb dX7_cut_92 (by decide) ?_
          exact ih_10 f_102 (v9w12 + 1) M_95 H_94 _ _ (by omega) (by omega) hW hF hP hD hS (lv_sub hl [0, 1, 3, 4, 5, 6] rfl)
    exact key_9 (100 - 0 + 1) f_8 0 M H_2 _ _ (by omega) (by omega) hW hF hP hD hS (lv_sub hl [0, 1, 2, 3, 4, 5] rfl)
  · have hz := rfl (a := 0)
    have d_7 : ¬ 0 < r_3 := lc_gtf c_6
    refine lv_aload_n hx hb dX7_cut_11 rfl (lv_at hl 1 rfl) ?_
    refine pg_get (D := D) (ci := 7) (v := .ref v1_2) (C := RX7) (T := TX7) (N := 6) hx hb hg inG7 hown hK hP ia.1 hM1 rfl 2 (by decide) (hg _ wd_142) (fun _ h9 => h9) rfl dX7_cut_12 ?_
    refine lv_lconst (v := 0) hx hb dX7_cut_15 (by decide) ?_
    have hPc : va_P D vwCl ([] ++ va_pl L M) H_2 := hP
    have hDc : va_D A ([] ++ va_pl L M) := hD
    have hFc : ∀ q, va_A ([] ++ va_pl L M) H_2.size q → A q := pg_free hDc hS hA
    refine va_callv (va_runS (As := [.ref v1_2, .long 0]) (rest := []) ⟨hx, hb, hml, hown, hg⟩ (s_J7_fill_d0a16_69 l D cy K L M H_2.size v1_2 100 0  hW h1_2 (by omega)) (va_cwS 2 hg (gS wd_157 wd_158 wd_159 wd_160) rfl rfl rfl (by decide +kernel) ⟨(Nat.le_trans (Nat.le_of_ble_eq_true rfl) hRf), (Nat.le_trans (Nat.le_of_ble_eq_true rfl) hRl)⟩) ⟨PG.blind, fun U hU hW => ⟨rfl, PG.at hPc hK hDc hN hU hW⟩⟩ rfl rfl hl.1 rfl (lv_room (Nat.le_of_ble_eq_true rfl)) dX7_cut_16 ⟨(Nat.le_trans (Nat.le_of_ble_eq_true rfl) hRc), (Nat.le_trans (Nat.le_of_ble_eq_true rfl) hRs)⟩) hS (fun q _ h => hFc q h) hFc (fun M_105 t H_103 locs ht hvm hw hB hz1 hk1 hS => ?_)
    obtain ⟨hW, hF2, hp_106⟩ := hw
    obtain ⟨hP1, hD1⟩ := hB
    rw [ht] at hP1
    have hP : va_P D vwCl ([] ++ va_pl L M_105) H_103 := hP1
    have hD : va_D A ([] ++ va_pl L M_105) := hD1.mono hFc
    have hM_107 : M_105 oa = (b7_8 v1_0 v1_1 v1_2 v1_3 v1_4 (nI v1_5)) := (hF2.at ia (by decide)).trans hM1
    have hF : fr K L [69, 70] M M_105 := hF.tr hF2 (by decide)
    refine lv_lconst (v := 0) hx hb dX7_cut_19 (by decide) ?_
    rw [hQ]
    exact W.lret (v := 0) hx hb hr (fun t ht hW9 => ⟨⟨0, M_105, rfl, ⟨hW, hF, trivial⟩, ⟨by rw [ht]; exact hP, hD⟩⟩, hS.F ht⟩) hS.2.2 dX7_cut_20
set_option maxHeartbeats 4000000 in
set_option maxRecDepth 100000 in
theorem s_X7_shareLoss (l : Launch) (D : va_G) (cy : Nat → ClassId) (K : Kp) (L : List Nat) (M : Hp) (sz : Nat) (oa : Nat) (k1 : Int64) (hW : WOK cy K L M) (ia : isk K L oa 7 0) : Met l yX7_shareLoss (wsM yX7_shareLoss cX7_shareLoss 8 (some .long)) ({ frames := 2, cells := 0, slots := 0, locals := 55 }) (va_Pc [.ref oa, .long k1] (PG D cy [] L M sz)) (va_Ql (fun (r : Int64) (M9 : Hp) => WOK cy K L M9 ∧ fr K L [68, 69, 70, 71] M M9 ∧ (True)) (fun M9 t => PQ D [] L M9 (va_A ([] ++ va_pl L M) sz) t) (va_A ([] ++ va_pl L M) sz)) 0 0 (va_A ([] ++ va_pl L M) sz) := by
  refine Met.ofW (cc := cX7_shareLoss) (maxL := 8) (ret := (some .long)) (by decide) rfl ?_
  intro p e s m args below meth c s₁ B hml hv
  obtain ⟨rfl, hsz, hP, hK, hD0, hN⟩ := hv
  have hx := B.exec
  have hb := B.bytes
  have hr := B.returns
  have hts := atoms_spec (ws := (wsM yX7_shareLoss cX7_shareLoss 8 (some .long))) B.pre
  have hg : ∀ w ∈ lw_good, w.before _ s = true := fun w h => hts w (List.mem_cons_of_mem _ h)
  have hown : s.vm.findClass RX7 = some m.cls := findClass_of_methodNamed B.named
  have hlocks := B.notSynchronized
  subst hsz
  have hD := hD0.self (sz := s.heap.size)
  generalize hAe : va_A ([] ++ va_pl L M) s.heap.size = A at hD ⊢
  have hA : ∀ q : Nat, s.heap.size ≤ q → A q := fun q h => by rw [← hAe]; exact Or.inr h
  have hS : va_S A s.heap s.heap [] := va_S.rf
  have hl := lv_entry ([.ref oa, .long k1]) (n := 8) (Nat.le_of_ble_eq_true rfl)
  rw [lg_entry_eq]
  generalize (lg_sl ([.ref oa, .long k1]) ++ List.replicate (8 - (lg_sl ([.ref oa, .long k1])).length) Slot.unset).toArray = ls at hl ⊢
  refine W.nameQ (fun Q hQ => ?_)
  refine W.nameR (fun R hR => ?_)
  have hRf : 2 ≤ R.frames := by rw [hR]; exact Nat.le_of_ble_eq_true rfl
  have hRl : 55 ≤ R.locals := by rw [hR]; exact Nat.le_of_ble_eq_true rfl
  have hRc : 0 ≤ R.cells := by rw [hR]; exact Nat.le_of_ble_eq_true rfl
  have hRs : 0 ≤ R.slots := by rw [hR]; exact Nat.le_of_ble_eq_true rfl
  have hF : fr K L [68, 69, 70, 71] M M := fr.rf
  have hl : lv_has ls 8 [(0, .ref oa), (1, .long k1)] := hl
  refine lv_aload_n hx hb dX7_shareLoss_0 rfl (lv_at hl 0 rfl) ?_
  refine lv_lload_n hx hb dX7_shareLoss_1 rfl (lv_at hl 1 rfl) ?_
  obtain ⟨v1_0, v1_1, v1_2, v1_3, v1_4, v1_5, hM1, h1_0, h1_1, h1_2, h1_3, h1_4, h1_5⟩ := hW.open_7 ia
  have hPc : va_P D vwCl ([] ++ va_pl L M) s.heap := hP
  have hDc : va_D A ([] ++ va_pl L M) := hD
  have hFc : ∀ q, va_A ([] ++ va_pl L M) s.heap.size q → A q := pg_free hDc hS hA
  refine va_calll (va_runV (As := [.long k1]) (rest := []) ⟨hx, hb, hml, hown, hg⟩ (s_X7_cut l D cy K L M s.heap.size oa k1  hW ia) (cwV 1 hg (gV wd_161 wd_162 wd_163 wd_148 wd_164) rfl rfl rfl (by decide +kernel) ⟨(Nat.le_trans (Nat.le_of_ble_eq_true rfl) hRf), (Nat.le_trans (Nat.le_of_ble_eq_true rfl) hRl)⟩) ⟨PG.blind, pg_recv hK hP ia.1 hM1 rfl, fun U hU hW => ⟨rfl, PG.at hPc hK hDc hN hU hW⟩⟩ rfl rfl hl.1 rfl (lv_room (Nat.le_of_ble_eq_true rfl)) dX7_shareLoss_2 ⟨(Nat.le_trans (Nat.le_of_ble_eq_true rfl) hRc), (Nat.le_trans (Nat.le_of_ble_eq_true rfl) hRs)⟩) hS (fun q _ h => hFc q h) hFc (fun r_3 M_4 t H_2 locs ht hvm hw hB hz1 hk1 hS => ?_)
  obtain ⟨hW, hF2, hp_5⟩ := hw
  obtain ⟨hP1, hD1⟩ := hB
  rw [ht] at hP1
  have hP : va_P D vwCl ([] ++ va_pl L M_4) H_2 := hP1
  have hD : va_D A ([] ++ va_pl L M_4) := hD1.mono hFc
  have hM_6 : M_4 oa = (b7_8 v1_0 v1_1 v1_2 v1_3 v1_4 (nI v1_5)) := (hF2.at ia (by decide)).trans hM1
  have hF : fr K L [68, 69, 70, 71] M M_4 := hF.tr hF2 (by decide)
  refine lv_pop2_2 hx hb dX7_shareLoss_5 rfl ?_
  refine lv_lconst (v := 0) hx hb dX7_shareLoss_6 (by decide) ?_
  refine lv_lstore_n (lv' := [(3, .long 0), (0, .ref oa), (1, .long k1)]) hx hb dX7_shareLoss_7 rfl hl (by decide) rfl (fun ls hl => ?_)
  refine lv_iconst (v := 0) hx hb dX7_shareLoss_8 (by decide) ?_
  refine lv_istore (lv' := [(5, .int 0), (3, .long 0), (0, .ref oa), (1, .long k1)]) hx hb dX7_shareLoss_9 hl (by decide) rfl (fun ls hl => ?_)
  have key_7 : ∀ (fu_9 : Nat) (v3w10 : Int64) (v5w10 : Nat) (M_12 : Hp) (H_13 : Heap) (locs : List Loc) (ls : Array Slot), 100 - v5w10 < fu_9 → v5w10 ≤ 100 → WOK cy K L M_12 → fr K L [68, 69, 70, 71] M M_12 → va_P D vwCl ([] ++ va_pl L M_12) H_13 → va_D A ([] ++ va_pl L M_12) → va_S A s.heap H_13 locs → lv_has ls 8 [(5, .int (nI v5w10)), (3, .long v3w10), (0, .ref oa), (1, .long k1)] → W p l e R s m ([.ref oa, .long k1] : List Value).toArray below meth c H_13 locs 0 0 Q (F0 m 11 ls []) := by
    intro fu_9
    induction fu_9 with
    | zero => intro v3w10 v5w10 M_12 H_13 locs ls h; exact absurd h (Nat.not_lt_zero _)
    | succ fu_9 ih_8 =>
      intro v3w10 v5w10 M_12 H_13 locs ls hfu hx_11 hW hF hP hD hS hl
      refine lv_iload hx hb dX7_shareLoss_11 (lv_at hl 0 rfl) ?_
      refine lv_aload_n hx hb dX7_shareLoss_13 rfl (lv_at hl 2 rfl) ?_
      obtain ⟨v14_0, v14_1, v14_2, v14_3, v14_4, v14_5, hM14, h14_0, h14_1, h14_2, h14_3, h14_4, h14_5⟩ := hW.open_7 ia
      refine pg_get (D := D) (ci := 7) (v := .int (nI v14_5)) (C := RX7) (T := TX7) (N := 6) hx hb hg inG7 hown hK hP ia.1 hM14 rfl 5 (by decide) (hg _ wd_139) (fun _ h9 => h9) rfl dX7_shareLoss_14 ?_
      refine lv_icmp_ge (tgt := 113) hx hb dX7_shareLoss_17 (by decide) (fun c_15 => ?_) (fun c_15 => ?_)
      · have hz := rfl (a := 0)
        have n_16 : v14_5 ≤ v5w10 := (iLE (a := v14_5) (b := v5w10) (by omega) (by omega)).mp c_15
        refine lv_aload_n hx hb dX7_shareLoss_113 rfl (lv_at hl 2 rfl) ?_
        refine lv_lload_n hx hb dX7_shareLoss_114 rfl (lv_at hl 1 rfl) ?_
        have hPc : va_P D vwCl ([] ++ va_pl L M_12) H_13 := hP
        have hDc : va_D A ([] ++ va_pl L M_12) := hD
        have hFc : ∀ q, va_A ([] ++ va_pl L M_12) H_13.size q → A q := pg_free hDc hS hA
        refine va_calll (va_runV (As := [.long v3w10]) (rest := []) ⟨hx, hb, hml, hown, hg⟩ (s_X7_cut l D cy K L M_12 H_13.size oa v3w10  hW ia) (cwV 1 hg (gV wd_161 wd_162 wd_163 wd_148 wd_164) rfl rfl rfl (by decide +kernel) ⟨(Nat.le_trans (Nat.le_of_ble_eq_true rfl) hRf), (Nat.le_trans (Nat.le_of_ble_eq_true rfl) hRl)⟩) ⟨PG.blind, pg_recv hK hP ia.1 hM14 rfl, fun U hU hW => ⟨rfl, PG.at hPc hK hDc hN hU hW⟩⟩ rfl rfl hl.1 rfl (lv_room (Nat.le_of_ble_eq_true rfl)) dX7_shareLoss_115 ⟨(Nat.le_trans (Nat.le_of_ble_eq_true rfl) hRc), (Nat.le_trans (Nat.le_of_ble_eq_true rfl) hRs)⟩) hS (fun q _ h => hFc q h) hFc (fun r_18 M_19 t H_17 locs ht hvm hw hB hz1 hk1 hS => ?_)
        obtain ⟨hW, hF2, hp_20⟩ := hw
        obtain ⟨hP1, hD1⟩ := hB
        rw [ht] at hP1
        have hP : va_P D vwCl ([] ++ va_pl L M_19) H_17 := hP1
        have hD : va_D A ([] ++ va_pl L M_19) := hD1.mono hFc
        have hM_21 : M_19 oa = (b7_8 v14_0 v14_1 v14_2 v14_3 v14_4 (nI v14_5)) := (hF2.at ia (by decide)).trans hM14
        have hF : fr K L [68, 69, 70, 71] M M_19 := hF.tr hF2 (by decide)
        refine lv_pop2_2 hx hb dX7_shareLoss_118 rfl ?_
        refine lv_lload_n hx hb dX7_shareLoss_119 rfl (lv_at hl 3 rfl) ?_
        refine lv_lstore (lv' := [(5, .long k1), (3, .long v3w10), (0, .ref oa), (1, .long k1)]) hx hb dX7_shareLoss_120 hl (by decide) rfl (fun ls hl => ?_)
        refine lv_iconst (v := 0) hx hb dX7_shareLoss_122 (by decide) ?_
        refine lv_istore (lv' := [(7, .int 0), (5, .long k1), (3, .long v3w10), (0, .ref oa), (1, .long k1)]) hx hb dX7_shareLoss_123 hl (by decide) rfl (fun ls hl => ?_)
        have key_22 : ∀ (fu_24 : Nat) (v5w25 : Int64) (v7w25 : Nat) (M_27 : Hp) (H_28 : Heap) (locs : List Loc) (ls : Array Slot), 100 - v7w25 < fu_24 → v7w25 ≤ 100 → WOK cy K L M_27 → fr K L [68, 69, 70, 71] M M_27 → va_P D vwCl ([] ++ va_pl L M_27) H_28 → va_D A ([] ++ va_pl L M_27) → va_S A s.heap H_28 locs → lv_has ls 8 [(7, .int (nI v7w25)), (5, .long v5w25), (3, .long v3w10), (0, .ref oa), (1, .long k1)] → W p l e R s m ([.ref oa, .long k1] : List Value).toArray below meth c H_28 locs 0 0 Q (F0 m 125 ls []) := by
          intro fu_24
          induction fu_24 with
          | zero => intro v5w25 v7w25 M_27 H_28 locs ls h; exact absurd h (Nat.not_lt_zero _)
          | succ fu_24 ih_23 =>
            intro v5w25 v7w25 M_27 H_28 locs ls hfu hx_26 hW hF hP hD hS hl
            refine lv_iload hx hb dX7_shareLoss_125 (lv_at hl 0 rfl) ?_
            refine lv_aload_n hx hb dX7_shareLoss_127 rfl (lv_at hl 3 rfl) ?_
            obtain ⟨v29_0, v29_1, v29_2, v29_3, v29_4, v29_5, hM29, h29_0, h29_1, h29_2, h29_3, h29_4, h29_5⟩ := hW.open_7 ia
            refine pg_get (D := D) (ci := 7) (v := .int (nI v29_5)) (C := RX7) (T := TX7) (N := 6) hx hb hg inG7 hown hK hP ia.1 hM29 rfl 5 (by decide) (hg _ wd_139) (fun _ h9 => h9) rfl dX7_shareLoss_128 ?_
            refine lv_icmp_ge (tgt := 169) hx hb dX7_shareLoss_131 (by decide) (fun c_30 => ?_) (fun c_30 => ?_)
            · have hz := rfl (a := 0)
              have n_31 : v29_5 ≤ v7w25 := (iLE (a := v29_5) (b := v7w25) (by omega) (by omega)).mp c_30
              refine lv_lload hx hb dX7_shareLoss_169 (lv_at hl 1 rfl) ?_
              rw [hQ]
              exact W.lret (v := v5w25) hx hb hr (fun t ht hW9 => ⟨⟨v5w25, M_27, rfl, ⟨hW, hF, trivial⟩, ⟨by rw [ht]; exact hP, hD⟩⟩, hS.F ht⟩) hS.2.2 dX7_shareLoss_171
            · have hz := rfl (a := 0)
              have n_32 : ¬ (v29_5 ≤ v7w25) := fun q => c_30 ((iLE (a := v29_5) (b := v7w25) (by omega) (by omega)).mpr q)
              refine lv_aload_n hx hb dX7_shareLoss_134 rfl (lv_at hl 3 rfl) ?_
              refine pg_get (D := D) (ci := 7) (v := .ref v29_2) (C := RX7) (T := TX7) (N := 6) hx hb hg inG7 hown hK hP ia.1 hM29 rfl 2 (by decide) (hg _ wd_142) (fun _ h9 => h9) rfl dX7_shareLoss_135 ?_
              refine lv_iload hx hb dX7_shareLoss_138 (lv_at hl 0 rfl) ?_
              refine lv_dup2_11 hx hb dX7_shareLoss_140 rfl rfl ?_
              obtain ⟨f33, hM33⟩ := hW.open_69 h29_2
              refine pg_lald hx hb hK hP h29_2.1 1 hM33 rfl (inbN v7w25 100 (by omega) (by omega)) dX7_shareLoss_141 ?_
              refine lv_topl (fun f_34 ef_34 => ?_)
              refine lv_aload_n hx hb dX7_shareLoss_142 rfl (lv_at hl 3 rfl) ?_
              refine pg_get (D := D) (ci := 7) (v := .ref v29_4) (C := RX7) (T := TX7) (N := 6) hx hb hg inG7 hown hK hP ia.1 hM29 rfl 4 (by decide) (hg _ wd_165) (fun _ h9 => h9) rfl dX7_shareLoss_143 ?_
              refine lv_iload hx hb dX7_shareLoss_146 (lv_at hl 0 rfl) ?_
              obtain ⟨f35, hM35⟩ := hW.open_71 h29_4
              refine pg_lald hx hb hK hP h29_4.1 1 hM35 rfl (inbN v7w25 100 (by omega) (by omega)) dX7_shareLoss_148 ?_
              refine lv_topl (fun f_36 ef_36 => ?_)
              refine lv_ladd hx hb dX7_shareLoss_149 ?_
              refine lv_topl (fun f_37 ef_37 => ?_)
              refine pg_last hx hb hK hP hD hS h29_2.1 1 hM33 rfl (inbN v7w25 100 (by omega) (by omega)) dX7_shareLoss_150 (fun H_38 locs hP hD hS => ?_)
              obtain ⟨M_39, eM_39⟩ : ∃ M1 : Hp, M1 = va_up M_27 v29_2 (.inl (cy 15, 100, .inr (.inl (vp_updL f33 ((nI v7w25) : Int32).toNatClampNeg f_37)))) := ⟨_, rfl⟩
              have hP : va_P D vwCl ([] ++ va_pl L M_39) H_38 := by rw [eM_39]; exact hP
              have hD : va_D A ([] ++ va_pl L M_39) := by rw [eM_39]; exact hD
              have hW : WOK cy K L M_39 := by rw [eM_39]; exact hW.up_69 h29_2 ⟨_, rfl⟩
              have hF : fr K L [68, 69, 70, 71] M M_39 := by rw [eM_39]; exact hF.up h29_2 (by decide)
              have hM_40 : M_39 v29_2 = .inl (cy 15, 100, .inr (.inl (vp_updL f33 ((nI v7w25) : Int32).toNatClampNeg f_37))) := by rw [eM_39]; exact va_up_self _ _ _
              have hM_41 : M_39 oa = (b7_8 v29_0 v29_1 v29_2 v29_3 v29_4 (nI v29_5)) := by rw [eM_39, va_up_ne _ _ (ia.neT h29_2 (by decide))]; exact hM29
              have hM_42 : M_39 v29_4 = .inl (cy 15, 100, .inr (.inl (f35))) := by rw [eM_39, va_up_ne _ _ (h29_4.neT h29_2 (by decide))]; exact hM35
              obtain ⟨f_43, ef_43⟩ : ∃ f : Nat → Int64, f = vp_updL f33 ((nI v7w25) : Int32).toNatClampNeg f_37 := ⟨_, rfl⟩
              rw [← ef_43] at hM_40
              clear ef_43
              refine lv_lload hx hb dX7_shareLoss_151 (lv_at hl 1 rfl) ?_
              refine lv_aload_n hx hb dX7_shareLoss_153 rfl (lv_at hl 3 rfl) ?_
              refine pg_get (D := D) (ci := 7) (v := .ref v29_2) (C := RX7) (T := TX7) (N := 6) hx hb hg inG7 hown hK hP ia.1 hM_41 rfl 2 (by decide) (hg _ wd_142) (fun _ h9 => h9) rfl dX7_shareLoss_154 ?_
              refine lv_iload hx hb dX7_shareLoss_157 (lv_at hl 0 rfl) ?_
              refine pg_lald hx hb hK hP h29_2.1 1 hM_40 rfl (inbN v7w25 100 (by omega) (by omega)) dX7_shareLoss_159 ?_
              refine lv_topl (fun f_44 ef_44 => ?_)
              refine lv_lsub hx hb dX7_shareLoss_160 ?_
              refine lv_topl (fun f_45 ef_45 => ?_)
              refine lv_lstore (lv' := [(5, .long f_45), (7, .int (nI v7w25)), (3, .long v3w10), (0, .ref oa), (1, .long k1)]) hx hb dX7_shareLoss_161 hl (by decide) rfl (fun ls hl => ?_)
              refine lv_iinc (v := (nI (v7w25 + 1))) (lv' := [(7, .int (nI (v7w25 + 1))), (5, .long f_45), (3, .long v3w10), (0, .ref oa), (1, .long k1)]) hx hb dX7_shareLoss_163 hl (k := 1) rfl (nI_1 v7w25) (by decide) rfl (fun ls hl => ?_)
              refine lv_goto (tgt := 125) hx hb dX7_shareLoss_166 (by decide) ?_
              exact ih_23 f_45 (v7w25 + 1) M_39 H_38 _ _ (by omega) (by omega) hW hF hP hD hS (lv_sub hl [0, 1, 2, 3, 4] rfl)
        exact key_22 (100 - 0 + 1) k1 0 M_19 H_17 _ _ (by omega) (by omega) hW hF hP hD hS (lv_sub hl [0, 1, 2, 3, 4] rfl)
      · have hz := rfl (a := 0)
        have n_46 : ¬ (v14_5 ≤ v5w10) := fun q => c_15 ((iLE (a := v14_5) (b := v5w10) (by omega) (by omega)).mpr q)
        refine lv_aload_n hx hb dX7_shareLoss_20 rfl (lv_at hl 2 rfl) ?_
        refine pg_get (D := D) (ci := 7) (v := .ref v14_0) (C := RX7) (T := TX7) (N := 6) hx hb hg inG7 hown hK hP ia.1 hM14 rfl 0 (by decide) (hg _ wd_140) (fun _ h9 => h9) rfl dX7_shareLoss_21 ?_
        refine lv_iload hx hb dX7_shareLoss_24 (lv_at hl 0 rfl) ?_
        obtain ⟨f47, hM47, hf47⟩ := hW.open_64 h14_0
        have hi_48 : vp_in (nI v5w10) 100 := (inbN v5w10 100 (by omega) (by omega))
        refine pg_aldq hx hb hK hP h14_0.1 8 hM47 rfl hi_48 dX7_shareLoss_26 ?_
        obtain ⟨q_49, ho_50⟩ : ∃ q : Option Nat, q = f47 ((nI v5w10) : Int32).toNatClampNeg := ⟨_, rfl⟩
        rw [← ho_50]
        have hq_51 : iskN K L q_49 9 0 := by rw [ho_50]; exact hf47 _ (vp_lt hi_48)
        rcases q_49 with _ | bq_49
        · have hz := rfl (a := 0)
          refine lv_astoreN (lv' := [(6, .null), (5, .int (nI v5w10)), (3, .long v3w10), (0, .ref oa), (1, .long k1)]) hx hb dX7_shareLoss_27 hl (by decide) rfl (fun ls hl => ?_)
          refine lv_aload_n hx hb dX7_shareLoss_29 rfl (lv_at hl 3 rfl) ?_
          refine pg_get (D := D) (ci := 7) (v := .ref v14_4) (C := RX7) (T := TX7) (N := 6) hx hb hg inG7 hown hK hP ia.1 hM14 rfl 4 (by decide) (hg _ wd_165) (fun _ h9 => h9) rfl dX7_shareLoss_30 ?_
          refine lv_iload hx hb dX7_shareLoss_33 (lv_at hl 1 rfl) ?_
          refine lv_aload_n hx hb dX7_shareLoss_35 rfl (lv_at hl 3 rfl) ?_
          refine pg_get (D := D) (ci := 7) (v := .ref v14_2) (C := RX7) (T := TX7) (N := 6) hx hb hg inG7 hown hK hP ia.1 hM14 rfl 2 (by decide) (hg _ wd_142) (fun _ h9 => h9) rfl dX7_shareLoss_36 ?_
          refine lv_iload hx hb dX7_shareLoss_39 (lv_at hl 1 rfl) ?_
          obtain ⟨f53, hM53⟩ := hW.open_69 h14_2
          refine pg_lald hx hb hK hP h14_2.1 1 hM53 rfl (inbN v5w10 100 (by omega) (by omega)) dX7_shareLoss_41 ?_
          refine lv_topl (fun f_54 ef_54 => ?_)
          obtain ⟨f55, hM55⟩ := hW.open_71 h14_4
          refine pg_last hx hb hK hP hD hS h14_4.1 1 hM55 rfl (inbN v5w10 100 (by omega) (by omega)) dX7_shareLoss_42 (fun H_56 locs hP hD hS => ?_)
          obtain ⟨M_57, eM_57⟩ : ∃ M1 : Hp, M1 = va_up M_12 v14_4 (.inl (cy 15, 100, .inr (.inl (vp_updL f55 ((nI v5w10) : Int32).toNatClampNeg f_54)))) := ⟨_, rfl⟩
          have hP : va_P D vwCl ([] ++ va_pl L M_57) H_56 := by rw [eM_57]; exact hP
          have hD : va_D A ([] ++ va_pl L M_57) := by rw [eM_57]; exact hD
          have hW : WOK cy K L M_57 := by rw [eM_57]; exact hW.up_71 h14_4 ⟨_, rfl⟩
          have hF : fr K L [68, 69, 70, 71] M M_57 := by rw [eM_57]; exact hF.up h14_4 (by decide)
          have hM_58 : M_57 v14_4 = .inl (cy 15, 100, .inr (.inl (vp_updL f55 ((nI v5w10) : Int32).toNatClampNeg f_54))) := by rw [eM_57]; exact va_up_self _ _ _
          have hM_59 : M_57 oa = (b7_8 v14_0 v14_1 v14_2 v14_3 v14_4 (nI v14_5)) := by rw [eM_57, va_up_ne _ _ (ia.neT h14_4 (by decide))]; exact hM14
          have hM_60 : M_57 v14_0 = .inl (cy 22, 100, .inr (.inr (.inr (.inr (f47))))) := by rw [eM_57, va_up_ne _ _ (h14_0.neT h14_4 (by decide))]; exact hM47
          have hM_61 : M_57 v14_2 = .inl (cy 15, 100, .inr (.inl (f53))) := by rw [eM_57, va_up_ne _ _ (h14_2.neT h14_4 (by decide))]; exact hM53
          obtain ⟨f_62, ef_62⟩ : ∃ f : Nat → Int64, f = vp_updL f55 ((nI v5w10) : Int32).toNatClampNeg f_54 := ⟨_, rfl⟩
          rw [← ef_62] at hM_58
          clear ef_62
          refine lv_aloadN hx hb dX7_shareLoss_43 (lv_at hl 0 rfl) ?_
          refine lv_ifnullN (tgt := 107) hx hb dX7_shareLoss_45 (by decide) ?_
          refine lv_iinc (v := (nI (v5w10 + 1))) (lv' := [(5, .int (nI (v5w10 + 1))), (6, .null), (3, .long v3w10), (0, .ref oa), (1, .long k1)]) hx hb dX7_shareLoss_107 hl (k := 1) rfl (nI_1 v5w10) (by decide) rfl (fun ls hl => ?_)
          refine lv_goto (tgt := 11) hx hb dX7_shareLoss_110 (by decide) ?_
          exact ih_8 v3w10 (v5w10 + 1) M_57 H_56 _ _ (by omega) (by omega) hW hF hP hD hS (lv_sub hl [0, 2, 3, 4] rfl)
        · have hb_52 := hq_51 bq_49 rfl
          refine lv_astore (lv' := [(6, .ref bq_49), (5, .int (nI v5w10)), (3, .long v3w10), (0, .ref oa), (1, .long k1)]) hx hb dX7_shareLoss_27 hl (by decide) rfl (fun ls hl => ?_)
          refine lv_aload_n hx hb dX7_shareLoss_29 rfl (lv_at hl 3 rfl) ?_
          refine pg_get (D := D) (ci := 7) (v := .ref v14_4) (C := RX7) (T := TX7) (N := 6) hx hb hg inG7 hown hK hP ia.1 hM14 rfl 4 (by decide) (hg _ wd_165) (fun _ h9 => h9) rfl dX7_shareLoss_30 ?_
          refine lv_iload hx hb dX7_shareLoss_33 (lv_at hl 1 rfl) ?_
          refine lv_aload_n hx hb dX7_shareLoss_35 rfl (lv_at hl 3 rfl) ?_
          refine pg_get (D := D) (ci := 7) (v := .ref v14_2) (C := RX7) (T := TX7) (N := 6) hx hb hg inG7 hown hK hP ia.1 hM14 rfl 2 (by decide) (hg _ wd_142) (fun _ h9 => h9) rfl dX7_shareLoss_36 ?_
          refine lv_iload hx hb dX7_shareLoss_39 (lv_at hl 1 rfl) ?_
          obtain ⟨f63, hM63⟩ := hW.open_69 h14_2
          refine pg_lald hx hb hK hP h14_2.1 1 hM63 rfl (inbN v5w10 100 (by omega) (by omega)) dX7_shareLoss_41 ?_
          refine lv_topl (fun f_64 ef_64 => ?_)
          obtain ⟨f65, hM65⟩ := hW.open_71 h14_4
          refine pg_last hx hb hK hP hD hS h14_4.1 1 hM65 rfl (inbN v5w10 100 (by omega) (by omega)) dX7_shareLoss_42 (fun H_66 locs hP hD hS => ?_)
          obtain ⟨M_67, eM_67⟩ : ∃ M1 : Hp, M1 = va_up M_12 v14_4 (.inl (cy 15, 100, .inr (.inl (vp_updL f65 ((nI v5w10) : Int32).toNatClampNeg f_64)))) := ⟨_, rfl⟩
          have hP : va_P D vwCl ([] ++ va_pl L M_67) H_66 := by rw [eM_67]; exact hP
          have hD : va_D A ([] ++ va_pl L M_67) := by rw [eM_67]; exact hD
          have hW : WOK cy K L M_67 := by rw [eM_67]; exact hW.up_71 h14_4 ⟨_, rfl⟩
          have hF : fr K L [68, 69, 70, 71] M M_67 := by rw [eM_67]; exact hF.up h14_4 (by decide)
          have hM_68 : M_67 v14_4 = .inl (cy 15, 100, .inr (.inl (vp_updL f65 ((nI v5w10) : Int32).toNatClampNeg f_64))) := by rw [eM_67]; exact va_up_self _ _ _
          have hM_69 : M_67 oa = (b7_8 v14_0 v14_1 v14_2 v14_3 v14_4 (nI v14_5)) := by rw [eM_67, va_up_ne _ _ (ia.neT h14_4 (by decide))]; exact hM14
          have hM_70 : M_67 v14_0 = .inl (cy 22, 100, .inr (.inr (.inr (.inr (f47))))) := by rw [eM_67, va_up_ne _ _ (h14_0.neT h14_4 (by decide))]; exact hM47
          have hM_71 : M_67 v14_2 = .inl (cy 15, 100, .inr (.inl (f63))) := by rw [eM_67, va_up_ne _ _ (h14_2.neT h14_4 (by decide))]; exact hM63
          obtain ⟨f_72, ef_72⟩ : ∃ f : Nat → Int64, f = vp_updL f65 ((nI v5w10) : Int32).toNatClampNeg f_64 := ⟨_, rfl⟩
          rw [← ef_72] at hM_68
          clear ef_72
          refine lv_aload hx hb dX7_shareLoss_43 (lv_at hl 0 rfl) ?_
          refine lv_ifnull hx hb dX7_shareLoss_45 ?_
          refine lv_aload hx hb dX7_shareLoss_48 (lv_at hl 0 rfl) ?_
          obtain ⟨v73_0, v73_1, v73_2, v73_3, v73_4, v73_5, v73_6, v73_7, v73_8, v73_9, v73_10, v73_11, v73_12, v73_13, v73_14, v73_15, hM73, h73_0, h73_1, h73_4, h73_8⟩ := hW.open_9 hb_52
          refine pg_get (D := D) (ci := 9) (v := .ref v73_1) (C := RX9) (T := TX9) (N := 16) hx hb hg inG9 hown hK hP hb_52.1 hM73 rfl 1 (by decide) (hg _ wd_166) (fun _ h9 => h9) rfl dX7_shareLoss_50 ?_
          obtain ⟨v74_0, v74_1, v74_2, v74_3, hM74, h74_3⟩ := hW.open_4 h73_1
          have hPc : va_P D vwCl ([] ++ va_pl L M_67) H_66 := hP
          have hDc : va_D A ([] ++ va_pl L M_67) := hD
          have hFc : ∀ q, va_A ([] ++ va_pl L M_67) H_66.size q → A q := pg_free hDc hS hA
          refine va_calli (va_runV (As := []) (rest := []) ⟨hx, hb, hml, hown, hg⟩ (s_X4_isLimited l D cy K L M_67 H_66.size v73_1  hW h73_1) (cwV 0 hg (gV wd_167 wd_168 wd_169 wd_30 wd_170) rfl rfl rfl (by decide +kernel) ⟨(Nat.le_trans (Nat.le_of_ble_eq_true rfl) hRf), (Nat.le_trans (Nat.le_of_ble_eq_true rfl) hRl)⟩) ⟨PG.blind, pg_recv hK hP h73_1.1 hM74 rfl, fun U hU hW => ⟨rfl, PG.at hPc hK hDc hN hU hW⟩⟩ rfl rfl hl.1 rfl (lv_room (Nat.le_of_ble_eq_true rfl)) dX7_shareLoss_53 ⟨(Nat.le_trans (Nat.le_of_ble_eq_true rfl) hRc), (Nat.le_trans (Nat.le_of_ble_eq_true rfl) hRs)⟩) hS (fun q _ h => hFc q h) hFc (fun r_76 M_77 t H_75 locs ht hvm hw hB hz1 hk1 hS => ?_)
          have hp_78 := hw
          obtain ⟨hP1, hD1⟩ := hB
          rw [ht] at hP1
          have hP : va_P D vwCl ([] ++ va_pl L M_67) H_75 := hP1
          have hD : va_D A ([] ++ va_pl L M_67) := hD1.mono hFc
          rcases hp_78 with rfl | rfl
          · have hz := rfl (a := 0)
            refine lv_if_eq (tgt := 107) hx hb dX7_shareLoss_56 (by decide) (fun c_79 => absurd c_79 (by decide)) (fun _ => ?_)
            refine lv_aload_n hx hb dX7_shareLoss_59 rfl (lv_at hl 3 rfl) ?_
            refine pg_get (D := D) (ci := 7) (v := .ref v14_4) (C := RX7) (T := TX7) (N := 6) hx hb hg inG7 hown hK hP ia.1 hM_69 rfl 4 (by decide) (hg _ wd_165) (fun _ h9 => h9) rfl dX7_shareLoss_60 ?_
            refine lv_iload hx hb dX7_shareLoss_63 (lv_at hl 1 rfl) ?_
            refine lv_aload_n hx hb dX7_shareLoss_65 rfl (lv_at hl 3 rfl) ?_
            refine pg_get (D := D) (ci := 7) (v := .ref v14_2) (C := RX7) (T := TX7) (N := 6) hx hb hg inG7 hown hK hP ia.1 hM_69 rfl 2 (by decide) (hg _ wd_142) (fun _ h9 => h9) rfl dX7_shareLoss_66 ?_
            refine lv_iload hx hb dX7_shareLoss_69 (lv_at hl 1 rfl) ?_
            refine pg_lald hx hb hK hP h14_2.1 1 hM_71 rfl (inbN v5w10 100 (by omega) (by omega)) dX7_shareLoss_71 ?_
            refine lv_topl (fun f_80 ef_80 => ?_)
            refine lv_aload hx hb dX7_shareLoss_72 (lv_at hl 0 rfl) ?_
            have hPc : va_P D vwCl ([] ++ va_pl L M_67) H_75 := hP
            have hDc : va_D A ([] ++ va_pl L M_67) := hD
            have hFc : ∀ q, va_A ([] ++ va_pl L M_67) H_75.size q → A q := pg_free hDc hS hA
            refine va_calll (va_runV (As := []) (rest := [.long f_80, .int (nI v5w10), .ref v14_4]) ⟨hx, hb, hml, hown, hg⟩ (s_X9_room l D cy K L M_67 H_75.size bq_49  hW hb_52) (cwV 0 hg (gV wd_171 wd_172 wd_173 wd_52 wd_174) rfl rfl rfl (by decide +kernel) ⟨(Nat.le_trans (Nat.le_of_ble_eq_true rfl) hRf), (Nat.le_trans (Nat.le_of_ble_eq_true rfl) hRl)⟩) ⟨PG.blind, pg_recv hK hP hb_52.1 hM73 rfl, fun U hU hW => ⟨rfl, PG.at hPc hK hDc hN hU hW⟩⟩ rfl rfl hl.1 rfl (lv_room (Nat.le_of_ble_eq_true rfl)) dX7_shareLoss_74 ⟨(Nat.le_trans (Nat.le_of_ble_eq_true rfl) hRc), (Nat.le_trans (Nat.le_of_ble_eq_true rfl) hRs)⟩) hS (fun q _ h => hFc q h) hFc (fun r_82 M_83 t H_81 locs ht hvm hw hB hz1 hk1 hS => ?_)
            have hp_84 := hw
            obtain ⟨hP1, hD1⟩ := hB
            rw [ht] at hP1
            have hP : va_P D vwCl ([] ++ va_pl L M_67) H_81 := hP1
            have hD : va_D A ([] ++ va_pl L M_67) := hD1.mono hFc
            refine va_mmin_long hx hb (by rw [hml]; exact hl.1.symm) hown (hg _ wd_175) (hg _ wd_176) (hg _ wd_12) (hg _ wd_177) (Nat.le_trans (Nat.le_of_ble_eq_true rfl) hRf) (Nat.le_trans (Nat.le_of_ble_eq_true rfl) hRl) (Nat.le_trans (Nat.le_of_ble_eq_true rfl) hRc) (Nat.le_trans (Nat.le_of_ble_eq_true rfl) hRs) dX7_shareLoss_77 ?_
            refine lv_topl (fun f_85 ef_85 => ?_)
            refine pg_last hx hb hK hP hD hS h14_4.1 1 hM_68 rfl (inbN v5w10 100 (by omega) (by omega)) dX7_shareLoss_80 (fun H_86 locs hP hD hS => ?_)
            obtain ⟨M_87, eM_87⟩ : ∃ M1 : Hp, M1 = va_up M_67 v14_4 (.inl (cy 15, 100, .inr (.inl (vp_updL f_72 ((nI v5w10) : Int32).toNatClampNeg f_85)))) := ⟨_, rfl⟩
            have hP : va_P D vwCl ([] ++ va_pl L M_87) H_86 := by rw [eM_87]; exact hP
            have hD : va_D A ([] ++ va_pl L M_87) := by rw [eM_87]; exact hD
            have hW : WOK cy K L M_87 := by rw [eM_87]; exact hW.up_71 h14_4 ⟨_, rfl⟩
            have hF : fr K L [68, 69, 70, 71] M M_87 := by rw [eM_87]; exact hF.up h14_4 (by decide)
            have hM_88 : M_87 v14_4 = .inl (cy 15, 100, .inr (.inl (vp_updL f_72 ((nI v5w10) : Int32).toNatClampNeg f_85))) := by rw [eM_87]; exact va_up_self _ _ _
            have hM_89 : M_87 oa = (b7_8 v14_0 v14_1 v14_2 v14_3 v14_4 (nI v14_5)) := by rw [eM_87, va_up_ne _ _ (ia.neT h14_4 (by decide))]; exact hM_69
            have hM_90 : M_87 v14_0 = .inl (cy 22, 100, .inr (.inr (.inr (.inr (f47))))) := by rw [eM_87, va_up_ne _ _ (h14_0.neT h14_4 (by decide))]; exact hM_70
            have hM_91 : M_87 v14_2 = .inl (cy 15, 100, .inr (.inl (f63))) := by rw [eM_87, va_up_ne _ _ (h14_2.neT h14_4 (by decide))]; exact hM_71
            have hM_92 : M_87 bq_49 = (b9_9 (nI v73_0) v73_1 v73_2 v73_3 v73_4 v73_5 v73_6 v73_7 v73_8 v73_9 v73_10 v73_11 v73_12 v73_13 v73_14 v73_15) := by rw [eM_87, va_up_ne _ _ (hb_52.neT h14_4 (by decide))]; exact hM73
            have hM_93 : M_87 v73_1 = .inr (4, [.int v74_0, .int v74_1, .int v74_2, va_rf v74_3]) := by rw [eM_87, va_up_ne _ _ (h73_1.neT h14_4 (by decide))]; exact hM74
            obtain ⟨f_94, ef_94⟩ : ∃ f : Nat → Int64, f = vp_updL f_72 ((nI v5w10) : Int32).toNatClampNeg f_85 := ⟨_, rfl⟩
            rw [← ef_94] at hM_88
            clear ef_94
            refine lv_lload_n hx hb dX7_shareLoss_81 rfl (lv_at hl 2 rfl) ?_
            refine lv_aload_n hx hb dX7_shareLoss_82 rfl (lv_at hl 3 rfl) ?_
            refine pg_get (D := D) (ci := 7) (v := .ref v14_2) (C := RX7) (T := TX7) (N := 6) hx hb hg inG7 hown hK hP ia.1 hM_89 rfl 2 (by decide) (hg _ wd_142) (fun _ h9 => h9) rfl dX7_shareLoss_83 ?_
            refine lv_iload hx hb dX7_shareLoss_86 (lv_at hl 1 rfl) ?_
            refine pg_lald hx hb hK hP h14_2.1 1 hM_91 rfl (inbN v5w10 100 (by omega) (by omega)) dX7_shareLoss_88 ?_
            refine lv_topl (fun f_95 ef_95 => ?_)
            refine lv_aload_n hx hb dX7_shareLoss_89 rfl (lv_at hl 3 rfl) ?_
            refine pg_get (D := D) (ci := 7) (v := .ref v14_4) (C := RX7) (T := TX7) (N := 6) hx hb hg inG7 hown hK hP ia.1 hM_89 rfl 4 (by decide) (hg _ wd_165) (fun _ h9 => h9) rfl dX7_shareLoss_90 ?_
            refine lv_iload hx hb dX7_shareLoss_93 (lv_at hl 1 rfl) ?_
            refine pg_lald hx hb hK hP h14_4.1 1 hM_88 rfl (inbN v5w10 100 (by omega) (by omega)) dX7_shareLoss_95 ?_
            refine lv_topl (fun f_96 ef_96 => ?_)
            refine lv_lsub hx hb dX7_shareLoss_96 ?_
            refine lv_topl (fun f_97 ef_97 => ?_)
            refine lv_ladd hx hb dX7_shareLoss_97 ?_
            refine lv_topl (fun f_98 ef_98 => ?_)
            refine lv_lstore_n (lv' := [(3, .long f_98), (6, .ref bq_49), (5, .int (nI v5w10)), (0, .ref oa), (1, .long k1)]) hx hb dX7_shareLoss_98 rfl hl (by decide) rfl (fun ls hl => ?_)
            refine lv_aload_n hx hb dX7_shareLoss_99 rfl (lv_at hl 3 rfl) ?_
            refine pg_get (D := D) (ci := 7) (v := .ref v14_1) (C := RX7) (T := TX7) (N := 6) hx hb hg inG7 hown hK hP ia.1 hM_89 rfl 1 (by decide) (hg _ wd_141) (fun _ h9 => h9) rfl dX7_shareLoss_100 ?_
            refine lv_iload hx hb dX7_shareLoss_103 (lv_at hl 2 rfl) ?_
            refine lv_lconst (v := 0) hx hb dX7_shareLoss_105 (by decide) ?_
            obtain ⟨f99, hM99⟩ := hW.open_68 h14_1
            refine pg_last hx hb hK hP hD hS h14_1.1 1 hM99 rfl (inbN v5w10 100 (by omega) (by omega)) dX7_shareLoss_106 (fun H_100 locs hP hD hS => ?_)
            obtain ⟨M_101, eM_101⟩ : ∃ M1 : Hp, M1 = va_up M_87 v14_1 (.inl (cy 15, 100, .inr (.inl (vp_updL f99 ((nI v5w10) : Int32).toNatClampNeg 0)))) := ⟨_, rfl⟩
            have hP : va_P D vwCl ([] ++ va_pl L M_101) H_100 := by rw [eM_101]; exact hP
            have hD : va_D A ([] ++ va_pl L M_101) := by rw [eM_101]; exact hD
            have hW : WOK cy K L M_101 := by rw [eM_101]; exact hW.up_68 h14_1 ⟨_, rfl⟩
            have hF : fr K L [68, 69, 70, 71] M M_101 := by rw [eM_101]; exact hF.up h14_1 (by decide)
            have hM_102 : M_101 v14_1 = .inl (cy 15, 100, .inr (.inl (vp_updL f99 ((nI v5w10) : Int32).toNatClampNeg 0))) := by rw [eM_101]; exact va_up_self _ _ _
            have hM_103 : M_101 v14_4 = .inl (cy 15, 100, .inr (.inl (f_94))) := by rw [eM_101, va_up_ne _ _ (h14_4.neT h14_1 (by decide))]; exact hM_88
            have hM_104 : M_101 oa = (b7_8 v14_0 v14_1 v14_2 v14_3 v14_4 (nI v14_5)) := by rw [eM_101, va_up_ne _ _ (ia.neT h14_1 (by decide))]; exact hM_89
            have hM_105 : M_101 v14_0 = .inl (cy 22, 100, .inr (.inr (.inr (.inr (f47))))) := by rw [eM_101, va_up_ne _ _ (h14_0.neT h14_1 (by decide))]; exact hM_90
            have hM_106 : M_101 v14_2 = .inl (cy 15, 100, .inr (.inl (f63))) := by rw [eM_101, va_up_ne _ _ (h14_2.neT h14_1 (by decide))]; exact hM_91
            have hM_107 : M_101 bq_49 = (b9_9 (nI v73_0) v73_1 v73_2 v73_3 v73_4 v73_5 v73_6 v73_7 v73_8 v73_9 v73_10 v73_11 v73_12 v73_13 v73_14 v73_15) := by rw [eM_101, va_up_ne _ _ (hb_52.neT h14_1 (by decide))]; exact hM_92
            have hM_108 : M_101 v73_1 = .inr (4, [.int v74_0, .int v74_1, .int v74_2, va_rf v74_3]) := by rw [eM_101, va_up_ne _ _ (h73_1.neT h14_1 (by decide))]; exact hM_93
            obtain ⟨f_109, ef_109⟩ : ∃ f : Nat → Int64, f = vp_updL f99 ((nI v5w10) : Int32).toNatClampNeg 0 := ⟨_, rfl⟩
            rw [← ef_109] at hM_102
            clear ef_109
            refine lv_iinc (v := (nI (v5w10 + 1))) (lv' := [(5, .int (nI (v5w10 + 1))), (3, .long f_98), (6, .ref bq_49), (0, .ref oa), (1, .long k1)]) hx hb dX7_shareLoss_107 hl (k := 2) rfl (nI_1 v5w10) (by decide) rfl (fun ls hl => ?_)
            refine lv_goto (tgt := 11) hx hb dX7_shareLoss_110 (by decide) ?_
            exact ih_8 f_98 (v5w10 + 1) M_101 H_100 _ _ (by omega) (by omega) hW hF hP hD hS (lv_sub hl [0, 1, 3, 4] rfl)
          · have hz := rfl (a := 0)
            refine lv_if_eq (tgt := 107) hx hb dX7_shareLoss_56 (by decide) (fun _ => ?_) (fun c_110 => absurd c_110 (by decide))
            refine lv_iinc (v := (nI (v5w10 + 1))) (lv' := [(5, .int (nI (v5w10 + 1))), (6, .ref bq_49), (3, .long v3w10), (0, .ref oa), (1, .long k1)]) hx hb dX7_shareLoss_107 hl (k := 1) rfl (nI_1 v5w10) (by decide) rfl (fun ls hl => ?_)
            refine lv_goto (tgt := 11) hx hb dX7_shareLoss_110 (by decide) ?_
            exact ih_8 v3w10 (v5w10 + 1) M_67 H_75 _ _ (by omega) (by omega) hW hF hP hD hS (lv_sub hl [0, 2, 3, 4] rfl)
  exact key_7 (100 - 0 + 1) 0 0 M_4 H_2 _ _ (by omega) (by omega) hW hF hP hD hS (lv_sub hl [0, 1, 2, 3] rfl)
set_option maxHeartbeats 4000000 in
set_option maxRecDepth 100000 in
theorem s_X8_begin (l : Launch) (D : va_G) (cy : Nat → ClassId) (K : Kp) (L : List Nat) (M : Hp) (sz : Nat) (oa : Nat) (k1 : Int32) (hW : WOK cy K L M) (ia : isk K L oa 8 0) : Met l yX8_begin (wsM yX8_begin cX8_begin 2 none) ({ frames := 1, cells := 0, slots := 0, locals := 24 }) (va_Pc [.ref oa, .int k1] (PG D cy [] L M sz)) (va_Qv (fun (M9 : Hp) => WOK cy K L M9 ∧ fr K L [8, 72] M M9 ∧ (True)) (fun M9 t => PQ D [] L M9 (va_A ([] ++ va_pl L M) sz) t) (va_A ([] ++ va_pl L M) sz)) 0 0 (va_A ([] ++ va_pl L M) sz) := by
  refine Met.ofW (cc := cX8_begin) (maxL := 2) (ret := none) (by decide) rfl ?_
  intro p e s m args below meth c s₁ B hml hv
  obtain ⟨rfl, hsz, hP, hK, hD0, hN⟩ := hv
  have hx := B.exec
  have hb := B.bytes
  have hr := B.returns
  have hts := atoms_spec (ws := (wsM yX8_begin cX8_begin 2 none)) B.pre
  have hg : ∀ w ∈ lw_good, w.before _ s = true := fun w h => hts w (List.mem_cons_of_mem _ h)
  have hown : s.vm.findClass RX8 = some m.cls := findClass_of_methodNamed B.named
  have hlocks := B.notSynchronized
  subst hsz
  have hD := hD0.self (sz := s.heap.size)
  generalize hAe : va_A ([] ++ va_pl L M) s.heap.size = A at hD ⊢
  have hA : ∀ q : Nat, s.heap.size ≤ q → A q := fun q h => by rw [← hAe]; exact Or.inr h
  have hS : va_S A s.heap s.heap [] := va_S.rf
  have hl := lv_entry ([.ref oa, .int k1]) (n := 2) (Nat.le_of_ble_eq_true rfl)
  rw [lg_entry_eq]
  generalize (lg_sl ([.ref oa, .int k1]) ++ List.replicate (2 - (lg_sl ([.ref oa, .int k1])).length) Slot.unset).toArray = ls at hl ⊢
  refine W.nameQ (fun Q hQ => ?_)
  refine W.nameR (fun R hR => ?_)
  have hRf : 1 ≤ R.frames := by rw [hR]; exact Nat.le_of_ble_eq_true rfl
  have hRl : 24 ≤ R.locals := by rw [hR]; exact Nat.le_of_ble_eq_true rfl
  have hRc : 0 ≤ R.cells := by rw [hR]; exact Nat.le_of_ble_eq_true rfl
  have hRs : 0 ≤ R.slots := by rw [hR]; exact Nat.le_of_ble_eq_true rfl
  have hF : fr K L [8, 72] M M := fr.rf
  have hl : lv_has ls 2 [(0, .ref oa), (1, .int k1)] := hl
  refine lv_aload_n hx hb dX8_begin_0 rfl (lv_at hl 0 rfl) ?_
  refine lv_iload_n hx hb dX8_begin_1 rfl (lv_at hl 1 rfl) ?_
  obtain ⟨v2_0, v2_1, v2_2, v2_3, v2_4, v2_5, hM2, h2_0, h2_1⟩ := hW.open_8 ia
  refine pg_put (D := D) (ci := 8) (v := .int k1) (ty := .int) (C := RX8) (T := TX8) (N := 6) hx hb hg inG8 tyX8 tyX8_ok nmX8 hown hK hP hD hS ia.1 hM2 rfl 2 (by decide) (hg _ wd_178) (fun _ h9 => h9) rfl (by decide +kernel) rfl rfl (Nat.le_of_ble_eq_true rfl) dX8_begin_2 (fun H_1 locs hP hD hS => ?_)
  obtain ⟨M_3, eM_3⟩ : ∃ M1 : Hp, M1 = va_up M oa ((b8_11 v2_0 v2_1 k1 v2_3 v2_4 v2_5)) := ⟨_, rfl⟩
  have hP : va_P D vwCl ([] ++ va_pl L M_3) H_1 := by rw [eM_3]; exact hP
  have hD : va_D A ([] ++ va_pl L M_3) := by rw [eM_3]; exact hD
  have hW : WOK cy K L M_3 := by rw [eM_3]; exact hW.up_8 ia ⟨v2_0, v2_1, k1, v2_3, v2_4, v2_5, rfl, h2_0, h2_1⟩
  have hF : fr K L [8, 72] M M_3 := by rw [eM_3]; exact hF.up ia (by decide)
  have hM_4 : M_3 oa = (b8_11 v2_0 v2_1 k1 v2_3 v2_4 v2_5) := by rw [eM_3]; exact va_up_self _ _ _
  refine lv_aload_n hx hb dX8_begin_5 rfl (lv_at hl 0 rfl) ?_
  refine lv_iconst (v := 0) hx hb dX8_begin_6 (by decide) ?_
  refine pg_put (D := D) (ci := 8) (v := .int 0) (ty := .int) (C := RX8) (T := TX8) (N := 6) hx hb hg inG8 tyX8 tyX8_ok nmX8 hown hK hP hD hS ia.1 hM_4 rfl 3 (by decide) (hg _ wd_179) (fun _ h9 => h9) rfl (by decide +kernel) rfl rfl (Nat.le_of_ble_eq_true rfl) dX8_begin_7 (fun H_5 locs hP hD hS => ?_)
  obtain ⟨M_6, eM_6⟩ : ∃ M1 : Hp, M1 = va_up M_3 oa ((b8_11 v2_0 v2_1 k1 0 v2_4 v2_5)) := ⟨_, rfl⟩
  have hP : va_P D vwCl ([] ++ va_pl L M_6) H_5 := by rw [eM_6]; exact hP
  have hD : va_D A ([] ++ va_pl L M_6) := by rw [eM_6]; exact hD
  have hW : WOK cy K L M_6 := by rw [eM_6]; exact hW.up_8 ia ⟨v2_0, v2_1, k1, 0, v2_4, v2_5, rfl, h2_0, h2_1⟩
  have hF : fr K L [8, 72] M M_6 := by rw [eM_6]; exact hF.up ia (by decide)
  have hM_7 : M_6 oa = (b8_11 v2_0 v2_1 k1 0 v2_4 v2_5) := by rw [eM_6]; exact va_up_self _ _ _
  refine lv_aload_n hx hb dX8_begin_10 rfl (lv_at hl 0 rfl) ?_
  refine lv_lconst (v := 0) hx hb dX8_begin_11 (by decide) ?_
  refine pg_put (D := D) (ci := 8) (v := .long 0) (ty := .long) (C := RX8) (T := TX8) (N := 6) hx hb hg inG8 tyX8 tyX8_ok nmX8 hown hK hP hD hS ia.1 hM_7 rfl 4 (by decide) (hg _ wd_180) (fun _ h9 => h9) rfl (by decide +kernel) rfl rfl (Nat.le_of_ble_eq_true rfl) dX8_begin_12 (fun H_8 locs hP hD hS => ?_)
  obtain ⟨M_9, eM_9⟩ : ∃ M1 : Hp, M1 = va_up M_6 oa ((b8_11 v2_0 v2_1 k1 0 0 v2_5)) := ⟨_, rfl⟩
  have hP : va_P D vwCl ([] ++ va_pl L M_9) H_8 := by rw [eM_9]; exact hP
  have hD : va_D A ([] ++ va_pl L M_9) := by rw [eM_9]; exact hD
  have hW : WOK cy K L M_9 := by rw [eM_9]; exact hW.up_8 ia ⟨v2_0, v2_1, k1, 0, 0, v2_5, rfl, h2_0, h2_1⟩
  have hF : fr K L [8, 72] M M_9 := by rw [eM_9]; exact hF.up ia (by decide)
  have hM_10 : M_9 oa = (b8_11 v2_0 v2_1 k1 0 0 v2_5) := by rw [eM_9]; exact va_up_self _ _ _
  refine lv_aload_n hx hb dX8_begin_15 rfl (lv_at hl 0 rfl) ?_
  refine lv_lconst (v := 0) hx hb dX8_begin_16 (by decide) ?_
  refine pg_put (D := D) (ci := 8) (v := .long 0) (ty := .long) (C := RX8) (T := TX8) (N := 6) hx hb hg inG8 tyX8 tyX8_ok nmX8 hown hK hP hD hS ia.1 hM_10 rfl 5 (by decide) (hg _ wd_181) (fun _ h9 => h9) rfl (by decide +kernel) rfl rfl (Nat.le_of_ble_eq_true rfl) dX8_begin_17 (fun H_11 locs hP hD hS => ?_)
  obtain ⟨M_12, eM_12⟩ : ∃ M1 : Hp, M1 = va_up M_9 oa ((b8_11 v2_0 v2_1 k1 0 0 0)) := ⟨_, rfl⟩
  have hP : va_P D vwCl ([] ++ va_pl L M_12) H_11 := by rw [eM_12]; exact hP
  have hD : va_D A ([] ++ va_pl L M_12) := by rw [eM_12]; exact hD
  have hW : WOK cy K L M_12 := by rw [eM_12]; exact hW.up_8 ia ⟨v2_0, v2_1, k1, 0, 0, 0, rfl, h2_0, h2_1⟩
  have hF : fr K L [8, 72] M M_12 := by rw [eM_12]; exact hF.up ia (by decide)
  have hM_13 : M_12 oa = (b8_11 v2_0 v2_1 k1 0 0 0) := by rw [eM_12]; exact va_up_self _ _ _
  refine lv_aload_n hx hb dX8_begin_20 rfl (lv_at hl 0 rfl) ?_
  refine pg_get (D := D) (ci := 8) (v := .ref v2_1) (C := RX8) (T := TX8) (N := 6) hx hb hg inG8 hown hK hP ia.1 hM_13 rfl 1 (by decide) (hg _ wd_182) (fun _ h9 => h9) rfl dX8_begin_21 ?_
  refine lv_lconst (v := 0) hx hb dX8_begin_24 (by decide) ?_
  have hPc : va_P D vwCl ([] ++ va_pl L M_12) H_11 := hP
  have hDc : va_D A ([] ++ va_pl L M_12) := hD
  have hFc : ∀ q, va_A ([] ++ va_pl L M_12) H_11.size q → A q := pg_free hDc hS hA
  refine va_callv (va_runS (As := [.ref v2_1, .long 0]) (rest := []) ⟨hx, hb, hml, hown, hg⟩ (s_J7_fill_d0a16_72 l D cy K L M_12 H_11.size v2_1 6 0  hW h2_1 (by omega)) (va_cwS 2 hg (gS wd_183 wd_158 wd_159 wd_160) rfl rfl rfl (by decide +kernel) ⟨(Nat.le_trans (Nat.le_of_ble_eq_true rfl) hRf), (Nat.le_trans (Nat.le_of_ble_eq_true rfl) hRl)⟩) ⟨PG.blind, fun U hU hW => ⟨rfl, PG.at hPc hK hDc hN hU hW⟩⟩ rfl rfl hl.1 rfl (lv_room (Nat.le_of_ble_eq_true rfl)) dX8_begin_25 ⟨(Nat.le_trans (Nat.le_of_ble_eq_true rfl) hRc), (Nat.le_trans (Nat.le_of_ble_eq_true rfl) hRs)⟩) hS (fun q _ h => hFc q h) hFc (fun M_16 t H_14 locs ht hvm hw hB hz1 hk1 hS => ?_)
  obtain ⟨hW, hF2, hp_17⟩ := hw
  obtain ⟨hP1, hD1⟩ := hB
  rw [ht] at hP1
  have hP : va_P D vwCl ([] ++ va_pl L M_16) H_14 := hP1
  have hD : va_D A ([] ++ va_pl L M_16) := hD1.mono hFc
  have hM_18 : M_16 oa = (b8_11 v2_0 v2_1 k1 0 0 0) := (hF2.at ia (by decide)).trans hM_13
  have hF : fr K L [8, 72] M M_16 := hF.tr hF2 (by decide)
  rw [hQ]
  exact W.vret hx hb hr (fun t ht hW9 => ⟨⟨M_16, rfl, ⟨hW, hF, trivial⟩, ⟨by rw [ht]; exact hP, hD⟩⟩, hS.F ht⟩) hS.2.2 dX8_begin_28
set_option maxHeartbeats 4000000 in
set_option maxRecDepth 100000 in
theorem s_X8_seatAll (l : Launch) (D : va_G) (cy : Nat → ClassId) (K : Kp) (L : List Nat) (M : Hp) (sz : Nat) (oa : Nat) (k1 : Nat) (hW : WOK cy K L M) (ia : isk K L oa 8 0) (ik1 : isk K L k1 2 0) : Met l yX8_seatAll (wsM yX8_seatAll cX8_seatAll 3 none) ({ frames := 2, cells := 0, slots := 0, locals := 45 }) (va_Pc [.ref oa, .ref k1] (PG D cy [] L M sz)) (va_Qv (fun (M9 : Hp) => WOK cy K L M9 ∧ fr K L [65] M M9 ∧ (True)) (fun M9 t => PQ D [] L M9 (va_A ([] ++ va_pl L M) sz) t) (va_A ([] ++ va_pl L M) sz)) 0 0 (va_A ([] ++ va_pl L M) sz) := by
  refine Met.ofW (cc := cX8_seatAll) (maxL := 3) (ret := none) (by decide) rfl ?_
  intro p e s m args below meth c s₁ B hml hv
  obtain ⟨rfl, hsz, hP, hK, hD0, hN⟩ := hv
  have hx := B.exec
  have hb := B.bytes
  have hr := B.returns
  have hts := atoms_spec (ws := (wsM yX8_seatAll cX8_seatAll 3 none)) B.pre
  have hg : ∀ w ∈ lw_good, w.before _ s = true := fun w h => hts w (List.mem_cons_of_mem _ h)
  have hown : s.vm.findClass RX8 = some m.cls := findClass_of_methodNamed B.named
  have hlocks := B.notSynchronized
  subst hsz
  have hD := hD0.self (sz := s.heap.size)
  generalize hAe : va_A ([] ++ va_pl L M) s.heap.size = A at hD ⊢
  have hA : ∀ q : Nat, s.heap.size ≤ q → A q := fun q h => by rw [← hAe]; exact Or.inr h
  have hS : va_S A s.heap s.heap [] := va_S.rf
  have hl := lv_entry ([.ref oa, .ref k1]) (n := 3) (Nat.le_of_ble_eq_true rfl)
  rw [lg_entry_eq]
  generalize (lg_sl ([.ref oa, .ref k1]) ++ List.replicate (3 - (lg_sl ([.ref oa, .ref k1])).length) Slot.unset).toArray = ls at hl ⊢
  refine W.nameQ (fun Q hQ => ?_)
  refine W.nameR (fun R hR => ?_)
  have hRf : 2 ≤ R.frames := by rw [hR]; exact Nat.le_of_ble_eq_true rfl
  have hRl : 45 ≤ R.locals := by rw [hR]; exact Nat.le_of_ble_eq_true rfl
  have hRc : 0 ≤ R.cells := by rw [hR]; exact Nat.le_of_ble_eq_true rfl
  have hRs : 0 ≤ R.slots := by rw [hR]; exact Nat.le_of_ble_eq_true rfl
  have hF : fr K L [65] M M := fr.rf
  have hl : lv_has ls 3 [(0, .ref oa), (1, .ref k1)] := hl
  refine lv_iconst (v := 0) hx hb dX8_seatAll_0 (by decide) ?_
  refine lv_istore_n (lv' := [(2, .int 0), (0, .ref oa), (1, .ref k1)]) hx hb dX8_seatAll_1 rfl hl (by decide) rfl (fun ls hl => ?_)
  have key_1 : ∀ (fu_3 : Nat) (v2w4 : Nat) (M_6 : Hp) (H_7 : Heap) (locs : List Loc) (ls : Array Slot), 6 - v2w4 < fu_3 → v2w4 ≤ 6 → WOK cy K L M_6 → fr K L [65] M M_6 → va_P D vwCl ([] ++ va_pl L M_6) H_7 → va_D A ([] ++ va_pl L M_6) → va_S A s.heap H_7 locs → lv_has ls 3 [(2, .int (nI v2w4)), (0, .ref oa), (1, .ref k1)] → W p l e R s m ([.ref oa, .ref k1] : List Value).toArray below meth c H_7 locs 0 0 Q (F0 m 2 ls []) := by
    intro fu_3
    induction fu_3 with
    | zero => intro v2w4 M_6 H_7 locs ls h; exact absurd h (Nat.not_lt_zero _)
    | succ fu_3 ih_2 =>
      intro v2w4 M_6 H_7 locs ls hfu hx_5 hW hF hP hD hS hl
      refine lv_iload_n hx hb dX8_seatAll_2 rfl (lv_at hl 0 rfl) ?_
      refine lv_bipush (v := 6) hx hb dX8_seatAll_3 (by decide) ?_
      refine lv_icmp_ge (tgt := 29) hx hb dX8_seatAll_5 (by decide) (fun c_8 => ?_) (fun c_8 => ?_)
      · have hz := rfl (a := 0)
        have n_9 : 6 ≤ v2w4 := (iLE (a := 6) (b := v2w4) (by omega) (by omega)).mp c_8
        rw [hQ]
        exact W.vret hx hb hr (fun t ht hW9 => ⟨⟨M_6, rfl, ⟨hW, hF, trivial⟩, ⟨by rw [ht]; exact hP, hD⟩⟩, hS.F ht⟩) hS.2.2 dX8_seatAll_29
      · have hz := rfl (a := 0)
        have n_10 : ¬ (6 ≤ v2w4) := fun q => c_8 ((iLE (a := 6) (b := v2w4) (by omega) (by omega)).mpr q)
        refine lv_aload_n hx hb dX8_seatAll_8 rfl (lv_at hl 1 rfl) ?_
        obtain ⟨v11_0, v11_1, v11_2, v11_3, v11_4, v11_5, hM11, h11_0, h11_1⟩ := hW.open_8 ia
        refine pg_get (D := D) (ci := 8) (v := .ref v11_0) (C := RX8) (T := TX8) (N := 6) hx hb hg inG8 hown hK hP ia.1 hM11 rfl 0 (by decide) (hg _ wd_184) (fun _ h9 => h9) rfl dX8_seatAll_9 ?_
        refine lv_iload_n hx hb dX8_seatAll_12 rfl (lv_at hl 0 rfl) ?_
        refine lv_aload_n hx hb dX8_seatAll_13 rfl (lv_at hl 2 rfl) ?_
        refine lv_iload_n hx hb dX8_seatAll_14 rfl (lv_at hl 0 rfl) ?_
        refine lv_aload_n hx hb dX8_seatAll_15 rfl (lv_at hl 1 rfl) ?_
        refine pg_get (D := D) (ci := 8) (v := .int v11_2) (C := RX8) (T := TX8) (N := 6) hx hb hg inG8 hown hK hP ia.1 hM11 rfl 2 (by decide) (hg _ wd_178) (fun _ h9 => h9) rfl dX8_seatAll_16 ?_
        obtain ⟨v12_0, v12_1, v12_2, v12_3, v12_4, v12_5, v12_6, v12_7, v12_8, v12_9, v12_10, v12_11, v12_12, v12_13, v12_14, v12_15, v12_16, v12_17, v12_18, v12_19, hM12, h12_3, h12_4, h12_5, h12_6, h12_7, h12_8, h12_9, h12_10, h12_11, h12_12, h12_13, h12_16, h12_17, h12_18, h12_19⟩ := hW.open_2 ik1
        have hPc : va_P D vwCl ([] ++ va_pl L M_6) H_7 := hP
        have hDc : va_D A ([] ++ va_pl L M_6) := hD
        have hFc : ∀ q, va_A ([] ++ va_pl L M_6) H_7.size q → A q := pg_free hDc hS hA
        refine va_callq (va_runV (As := [.int (nI v2w4), .int v11_2]) (rest := [.int (nI v2w4), .ref v11_0]) ⟨hx, hb, hml, hown, hg⟩ (s_X2_tenureIn l D cy K L M_6 H_7.size k1 (nI v2w4) v11_2  hW ik1) (cwV 2 hg (gV wd_185 wd_186 wd_187 wd_57 wd_188) rfl rfl rfl (by decide +kernel) ⟨(Nat.le_trans (Nat.le_of_ble_eq_true rfl) hRf), (Nat.le_trans (Nat.le_of_ble_eq_true rfl) hRl)⟩) ⟨PG.blind, pg_recv hK hP ik1.1 hM12 rfl, fun U hU hW => ⟨rfl, PG.at hPc hK hDc hN hU hW⟩⟩ rfl rfl hl.1 rfl (lv_room (Nat.le_of_ble_eq_true rfl)) dX8_seatAll_19 ⟨(Nat.le_trans (Nat.le_of_ble_eq_true rfl) hRc), (Nat.le_trans (Nat.le_of_ble_eq_true rfl) hRs)⟩) hS (fun q _ h => hFc q h) hFc (fun r_14 M_15 t H_13 locs ht hvm hw hB hz1 hk1 hS => ?_)
        have hp_16 := hw
        obtain ⟨hP1, hD1⟩ := hB
        rw [ht] at hP1
        have hP : va_P D vwCl ([] ++ va_pl L M_6) H_13 := hP1
        have hD : va_D A ([] ++ va_pl L M_6) := hD1.mono hFc
        rcases r_14 with _ | b_17
        · have hz := rfl (a := 0)
          obtain ⟨f18, hM18, hf18⟩ := hW.open_65 h11_0
          refine pg_astqN hx hb hK hP hD hS h11_0.1 8 hM18 rfl (inbN v2w4 6 (by omega) (by omega)) dX8_seatAll_22 (fun H_19 locs hP hD hS => ?_)
          obtain ⟨M_20, eM_20⟩ : ∃ M1 : Hp, M1 = va_up M_6 v11_0 (.inl (cy 22, 6, .inr (.inr (.inr (.inr (va_up f18 ((nI v2w4) : Int32).toNatClampNeg none)))))) := ⟨_, rfl⟩
          have hP : va_P D vwCl ([] ++ va_pl L M_20) H_19 := by rw [eM_20]; exact hP
          have hD : va_D A ([] ++ va_pl L M_20) := by rw [eM_20]; exact hD
          have hW : WOK cy K L M_20 := by rw [eM_20]; exact hW.up_65 h11_0 ⟨_, rfl, (upN0 hf18)⟩
          have hF : fr K L [65] M M_20 := by rw [eM_20]; exact hF.up h11_0 (by decide)
          have hM_21 : M_20 v11_0 = .inl (cy 22, 6, .inr (.inr (.inr (.inr (va_up f18 ((nI v2w4) : Int32).toNatClampNeg none))))) := by rw [eM_20]; exact va_up_self _ _ _
          have hM_22 : M_20 oa = (b8_11 v11_0 v11_1 v11_2 v11_3 v11_4 v11_5) := by rw [eM_20, va_up_ne _ _ (ia.neT h11_0 (by decide))]; exact hM11
          have hM_23 : M_20 k1 = (b2_2 v12_0 v12_1 v12_2 v12_3 (nI v12_4) (nI v12_5) v12_6 v12_7 v12_8 (nI v12_9) v12_10 (nI v12_11) v12_12 v12_13 v12_14 v12_15 v12_16 v12_17 v12_18 v12_19) := by rw [eM_20, va_up_ne _ _ (ik1.neT h11_0 (by decide))]; exact hM12
          have hf_25 : ∀ j, j < 6 → iskN K L ((va_up f18 ((nI v2w4) : Int32).toNatClampNeg none) j) 9 0 := (upN0 hf18)
          obtain ⟨f_24, ef_24⟩ : ∃ f : Nat → Option Nat, f = va_up f18 ((nI v2w4) : Int32).toNatClampNeg none := ⟨_, rfl⟩
          rw [← ef_24] at hM_21 hf_25
          clear ef_24
          refine lv_iinc (v := (nI (v2w4 + 1))) (lv' := [(2, .int (nI (v2w4 + 1))), (0, .ref oa), (1, .ref k1)]) hx hb dX8_seatAll_23 hl (k := 0) rfl (nI_1 v2w4) (by decide) rfl (fun ls hl => ?_)
          refine lv_goto (tgt := 2) hx hb dX8_seatAll_26 (by decide) ?_
          exact ih_2 (v2w4 + 1) M_20 H_19 _ _ (by omega) (by omega) hW hF hP hD hS (lv_sub hl [0, 1, 2] rfl)
        · have hb_26 := hp_16 b_17 rfl
          obtain ⟨f27, hM27, hf27⟩ := hW.open_65 h11_0
          obtain ⟨v29_0, v29_1, v29_2, v29_3, v29_4, v29_5, v29_6, v29_7, v29_8, v29_9, v29_10, v29_11, v29_12, v29_13, v29_14, v29_15, hM29, h29_0, h29_1, h29_4, h29_8⟩ := hW.open_9 hb_26
          refine pg_astq (r := (RX9, TX9, 16)) hx hb hK hP hD hS h11_0.1 8 9 hM27 rfl hb_26.1 hM29 rfl (inbN v2w4 6 (by omega) (by omega)) dX8_seatAll_22 (fun H_28 locs hP hD hS => ?_)
          obtain ⟨M_30, eM_30⟩ : ∃ M1 : Hp, M1 = va_up M_6 v11_0 (.inl (cy 22, 6, .inr (.inr (.inr (.inr (va_up f27 ((nI v2w4) : Int32).toNatClampNeg (some b_17))))))) := ⟨_, rfl⟩
          have hP : va_P D vwCl ([] ++ va_pl L M_30) H_28 := by rw [eM_30]; exact hP
          have hD : va_D A ([] ++ va_pl L M_30) := by rw [eM_30]; exact hD
          have hW : WOK cy K L M_30 := by rw [eM_30]; exact hW.up_65 h11_0 ⟨_, rfl, (upN hf27 hb_26)⟩
          have hF : fr K L [65] M M_30 := by rw [eM_30]; exact hF.up h11_0 (by decide)
          have hM_31 : M_30 v11_0 = .inl (cy 22, 6, .inr (.inr (.inr (.inr (va_up f27 ((nI v2w4) : Int32).toNatClampNeg (some b_17)))))) := by rw [eM_30]; exact va_up_self _ _ _
          have hM_32 : M_30 oa = (b8_11 v11_0 v11_1 v11_2 v11_3 v11_4 v11_5) := by rw [eM_30, va_up_ne _ _ (ia.neT h11_0 (by decide))]; exact hM11
          have hM_33 : M_30 k1 = (b2_2 v12_0 v12_1 v12_2 v12_3 (nI v12_4) (nI v12_5) v12_6 v12_7 v12_8 (nI v12_9) v12_10 (nI v12_11) v12_12 v12_13 v12_14 v12_15 v12_16 v12_17 v12_18 v12_19) := by rw [eM_30, va_up_ne _ _ (ik1.neT h11_0 (by decide))]; exact hM12
          have hM_34 : M_30 b_17 = (b9_9 (nI v29_0) v29_1 v29_2 v29_3 v29_4 v29_5 v29_6 v29_7 v29_8 v29_9 v29_10 v29_11 v29_12 v29_13 v29_14 v29_15) := by rw [eM_30, va_up_ne _ _ (hb_26.neT h11_0 (by decide))]; exact hM29
          have hf_36 : ∀ j, j < 6 → iskN K L ((va_up f27 ((nI v2w4) : Int32).toNatClampNeg (some b_17)) j) 9 0 := (upN hf27 hb_26)
          obtain ⟨f_35, ef_35⟩ : ∃ f : Nat → Option Nat, f = va_up f27 ((nI v2w4) : Int32).toNatClampNeg (some b_17) := ⟨_, rfl⟩
          rw [← ef_35] at hM_31 hf_36
          have hk_37 : f_35 ((nI v2w4) : Int32).toNatClampNeg = some b_17 := by rw [ef_35]; exact va_up_self _ _ _
          clear ef_35
          refine lv_iinc (v := (nI (v2w4 + 1))) (lv' := [(2, .int (nI (v2w4 + 1))), (0, .ref oa), (1, .ref k1)]) hx hb dX8_seatAll_23 hl (k := 0) rfl (nI_1 v2w4) (by decide) rfl (fun ls hl => ?_)
          refine lv_goto (tgt := 2) hx hb dX8_seatAll_26 (by decide) ?_
          exact ih_2 (v2w4 + 1) M_30 H_28 _ _ (by omega) (by omega) hW hF hP hD hS (lv_sub hl [0, 1, 2] rfl)
  exact key_1 (6 - 0 + 1) 0 M s.heap _ _ (by omega) (by omega) hW hF hP hD hS (lv_sub hl [0, 1, 2] rfl)
set_option maxHeartbeats 4000000 in
set_option maxRecDepth 100000 in
theorem s_X8_howManyIn (l : Launch) (D : va_G) (cy : Nat → ClassId) (K : Kp) (L : List Nat) (M : Hp) (sz : Nat) (oa : Nat) (hW : WOK cy K L M) (ia : isk K L oa 8 0) : Met l yX8_howManyIn (wsM yX8_howManyIn cX8_howManyIn 3 (some .int)) ({ frames := 0, cells := 0, slots := 0, locals := 0 }) (va_Pc [.ref oa] (PG D cy [] L M sz)) (va_Qi (fun (r : Int32) (_ : Unit) => True) (fun _ t => PQ D [] L M (va_A ([] ++ va_pl L M) sz) t) (va_A ([] ++ va_pl L M) sz)) 0 0 (va_A ([] ++ va_pl L M) sz) := by
  refine Met.ofW (cc := cX8_howManyIn) (maxL := 3) (ret := (some .int)) (by decide) rfl ?_
  intro p e s m args below meth c s₁ B hml hv
  obtain ⟨rfl, hsz, hP, hK, hD0, hN⟩ := hv
  have hx := B.exec
  have hb := B.bytes
  have hr := B.returns
  have hts := atoms_spec (ws := (wsM yX8_howManyIn cX8_howManyIn 3 (some .int))) B.pre
  have hg : ∀ w ∈ lw_good, w.before _ s = true := fun w h => hts w (List.mem_cons_of_mem _ h)
  have hown : s.vm.findClass RX8 = some m.cls := findClass_of_methodNamed B.named
  have hlocks := B.notSynchronized
  subst hsz
  have hD := hD0.self (sz := s.heap.size)
  generalize hAe : va_A ([] ++ va_pl L M) s.heap.size = A at hD ⊢
  have hA : ∀ q : Nat, s.heap.size ≤ q → A q := fun q h => by rw [← hAe]; exact Or.inr h
  have hS : va_S A s.heap s.heap [] := va_S.rf
  have hl := lv_entry ([.ref oa]) (n := 3) (Nat.le_of_ble_eq_true rfl)
  rw [lg_entry_eq]
  generalize (lg_sl ([.ref oa]) ++ List.replicate (3 - (lg_sl ([.ref oa])).length) Slot.unset).toArray = ls at hl ⊢
  refine W.nameQ (fun Q hQ => ?_)
  refine W.nameR (fun R hR => ?_)
  have hRf : 0 ≤ R.frames := by rw [hR]; exact Nat.le_of_ble_eq_true rfl
  have hRl : 0 ≤ R.locals := by rw [hR]; exact Nat.le_of_ble_eq_true rfl
  have hRc : 0 ≤ R.cells := by rw [hR]; exact Nat.le_of_ble_eq_true rfl
  have hRs : 0 ≤ R.slots := by rw [hR]; exact Nat.le_of_ble_eq_true rfl
  have hl : lv_has ls 3 [(0, .ref oa)] := hl
  refine lv_iconst (v := 0) hx hb dX8_howManyIn_0 (by decide) ?_
  refine lv_istore_n (lv' := [(1, .int 0), (0, .ref oa)]) hx hb dX8_howManyIn_1 rfl hl (by decide) rfl (fun ls hl => ?_)
  refine lv_iconst (v := 0) hx hb dX8_howManyIn_2 (by decide) ?_
  refine lv_istore_n (lv' := [(2, .int 0), (1, .int 0), (0, .ref oa)]) hx hb dX8_howManyIn_3 rfl hl (by decide) rfl (fun ls hl => ?_)
  have key_1 : ∀ (fu_3 : Nat) (v1w4 : Int32) (v2w4 : Nat) (H_6 : Heap) (locs : List Loc) (ls : Array Slot), 6 - v2w4 < fu_3 → v2w4 ≤ 6 → WOK cy K L M → va_P D vwCl ([] ++ va_pl L M) H_6 → va_D A ([] ++ va_pl L M) → va_S A s.heap H_6 locs → lv_has ls 3 [(2, .int (nI v2w4)), (1, .int v1w4), (0, .ref oa)] → W p l e R s m ([.ref oa] : List Value).toArray below meth c H_6 locs 0 0 Q (F0 m 4 ls []) := by
    intro fu_3
    induction fu_3 with
    | zero => intro v1w4 v2w4 H_6 locs ls h; exact absurd h (Nat.not_lt_zero _)
    | succ fu_3 ih_2 =>
      intro v1w4 v2w4 H_6 locs ls hfu hx_5 hW hP hD hS hl
      refine lv_iload_n hx hb dX8_howManyIn_4 rfl (lv_at hl 0 rfl) ?_
      refine lv_bipush (v := 6) hx hb dX8_howManyIn_5 (by decide) ?_
      refine lv_icmp_ge (tgt := 33) hx hb dX8_howManyIn_7 (by decide) (fun c_7 => ?_) (fun c_7 => ?_)
      · have hz := rfl (a := 0)
        have n_8 : 6 ≤ v2w4 := (iLE (a := 6) (b := v2w4) (by omega) (by omega)).mp c_7
        refine lv_iload_n hx hb dX8_howManyIn_33 rfl (lv_at hl 1 rfl) ?_
        rw [hQ]
        exact W.iret (v := v1w4) hx hb hr (fun t ht hW9 => ⟨⟨v1w4, (), rfl, trivial, ⟨by rw [ht]; exact hP, hD⟩⟩, hS.F ht⟩) hS.2.2 dX8_howManyIn_34
      · have hz := rfl (a := 0)
        have n_9 : ¬ (6 ≤ v2w4) := fun q => c_7 ((iLE (a := 6) (b := v2w4) (by omega) (by omega)).mpr q)
        refine lv_iload_n hx hb dX8_howManyIn_10 rfl (lv_at hl 1 rfl) ?_
        refine lv_aload_n hx hb dX8_howManyIn_11 rfl (lv_at hl 2 rfl) ?_
        obtain ⟨v10_0, v10_1, v10_2, v10_3, v10_4, v10_5, hM10, h10_0, h10_1⟩ := hW.open_8 ia
        refine pg_get (D := D) (ci := 8) (v := .ref v10_0) (C := RX8) (T := TX8) (N := 6) hx hb hg inG8 hown hK hP ia.1 hM10 rfl 0 (by decide) (hg _ wd_184) (fun _ h9 => h9) rfl dX8_howManyIn_12 ?_
        refine lv_iload_n hx hb dX8_howManyIn_15 rfl (lv_at hl 0 rfl) ?_
        obtain ⟨f11, hM11, hf11⟩ := hW.open_65 h10_0
        have hi_12 : vp_in (nI v2w4) 6 := (inbN v2w4 6 (by omega) (by omega))
        refine pg_aldq hx hb hK hP h10_0.1 8 hM11 rfl hi_12 dX8_howManyIn_16 ?_
        obtain ⟨q_13, ho_14⟩ : ∃ q : Option Nat, q = f11 ((nI v2w4) : Int32).toNatClampNeg := ⟨_, rfl⟩
        rw [← ho_14]
        have hq_15 : iskN K L q_13 9 0 := by rw [ho_14]; exact hf11 _ (vp_lt hi_12)
        rcases q_13 with _ | bq_13
        · have hz := rfl (a := 0)
          refine lv_ifnonnullN hx hb dX8_howManyIn_17 ?_
          refine lv_iconst (v := 0) hx hb dX8_howManyIn_20 (by decide) ?_
          refine lv_goto (tgt := 25) hx hb dX8_howManyIn_21 (by decide) ?_
          refine lv_iadd hx hb dX8_howManyIn_25 ?_
          refine lv_topi (fun f_17 ef_17 => ?_)
          refine lv_istore_n (lv' := [(1, .int f_17), (2, .int (nI v2w4)), (0, .ref oa)]) hx hb dX8_howManyIn_26 rfl hl (by decide) rfl (fun ls hl => ?_)
          refine lv_iinc (v := (nI (v2w4 + 1))) (lv' := [(2, .int (nI (v2w4 + 1))), (1, .int f_17), (0, .ref oa)]) hx hb dX8_howManyIn_27 hl (k := 1) rfl (nI_1 v2w4) (by decide) rfl (fun ls hl => ?_)
          refine lv_goto (tgt := 4) hx hb dX8_howManyIn_30 (by decide) ?_
          exact ih_2 f_17 (v2w4 + 1) H_6 _ _ (by omega) (by omega) hW hP hD hS (lv_sub hl [0, 1, 2] rfl)
        · have hb_16 := hq_15 bq_13 rfl
          refine lv_ifnonnull (tgt := 24) hx hb dX8_howManyIn_17 (by decide) ?_
          refine lv_iconst (v := 1) hx hb dX8_howManyIn_24 (by decide) ?_
          refine lv_iadd hx hb dX8_howManyIn_25 ?_
          refine lv_topi (fun f_18 ef_18 => ?_)
          refine lv_istore_n (lv' := [(1, .int f_18), (2, .int (nI v2w4)), (0, .ref oa)]) hx hb dX8_howManyIn_26 rfl hl (by decide) rfl (fun ls hl => ?_)
          refine lv_iinc (v := (nI (v2w4 + 1))) (lv' := [(2, .int (nI (v2w4 + 1))), (1, .int f_18), (0, .ref oa)]) hx hb dX8_howManyIn_27 hl (k := 1) rfl (nI_1 v2w4) (by decide) rfl (fun ls hl => ?_)
          refine lv_goto (tgt := 4) hx hb dX8_howManyIn_30 (by decide) ?_
          exact ih_2 f_18 (v2w4 + 1) H_6 _ _ (by omega) (by omega) hW hP hD hS (lv_sub hl [0, 1, 2] rfl)
  exact key_1 (6 - 0 + 1) 0 0 s.heap _ _ (by omega) (by omega) hW hP hD hS (lv_sub hl [0, 1, 2] rfl)
set_option maxHeartbeats 4000000 in
set_option maxRecDepth 100000 in
theorem s_X8_allDues (l : Launch) (D : va_G) (cy : Nat → ClassId) (K : Kp) (L : List Nat) (M : Hp) (sz : Nat) (oa : Nat) (hW : WOK cy K L M) (ia : isk K L oa 8 0) : Met l yX8_allDues (wsM yX8_allDues cX8_allDues 4 (some .long)) ({ frames := 0, cells := 0, slots := 0, locals := 0 }) (va_Pc [.ref oa] (PG D cy [] L M sz)) (va_Ql (fun (r : Int64) (_ : Unit) => True) (fun _ t => PQ D [] L M (va_A ([] ++ va_pl L M) sz) t) (va_A ([] ++ va_pl L M) sz)) 0 0 (va_A ([] ++ va_pl L M) sz) := by
  refine Met.ofW (cc := cX8_allDues) (maxL := 4) (ret := (some .long)) (by decide) rfl ?_
  intro p e s m args below meth c s₁ B hml hv
  obtain ⟨rfl, hsz, hP, hK, hD0, hN⟩ := hv
  have hx := B.exec
  have hb := B.bytes
  have hr := B.returns
  have hts := atoms_spec (ws := (wsM yX8_allDues cX8_allDues 4 (some .long))) B.pre
  have hg : ∀ w ∈ lw_good, w.before _ s = true := fun w h => hts w (List.mem_cons_of_mem _ h)
  have hown : s.vm.findClass RX8 = some m.cls := findClass_of_methodNamed B.named
  have hlocks := B.notSynchronized
  subst hsz
  have hD := hD0.self (sz := s.heap.size)
  generalize hAe : va_A ([] ++ va_pl L M) s.heap.size = A at hD ⊢
  have hA : ∀ q : Nat, s.heap.size ≤ q → A q := fun q h => by rw [← hAe]; exact Or.inr h
  have hS : va_S A s.heap s.heap [] := va_S.rf
  have hl := lv_entry ([.ref oa]) (n := 4) (Nat.le_of_ble_eq_true rfl)
  rw [lg_entry_eq]
  generalize (lg_sl ([.ref oa]) ++ List.replicate (4 - (lg_sl ([.ref oa])).length) Slot.unset).toArray = ls at hl ⊢
  refine W.nameQ (fun Q hQ => ?_)
  refine W.nameR (fun R hR => ?_)
  have hRf : 0 ≤ R.frames := by rw [hR]; exact Nat.le_of_ble_eq_true rfl
  have hRl : 0 ≤ R.locals := by rw [hR]; exact Nat.le_of_ble_eq_true rfl
  have hRc : 0 ≤ R.cells := by rw [hR]; exact Nat.le_of_ble_eq_true rfl
  have hRs : 0 ≤ R.slots := by rw [hR]; exact Nat.le_of_ble_eq_true rfl
  have hl : lv_has ls 4 [(0, .ref oa)] := hl
  refine lv_lconst (v := 0) hx hb dX8_allDues_0 (by decide) ?_
  refine lv_lstore_n (lv' := [(1, .long 0), (0, .ref oa)]) hx hb dX8_allDues_1 rfl hl (by decide) rfl (fun ls hl => ?_)
  refine lv_iconst (v := 0) hx hb dX8_allDues_2 (by decide) ?_
  refine lv_istore_n (lv' := [(3, .int 0), (1, .long 0), (0, .ref oa)]) hx hb dX8_allDues_3 rfl hl (by decide) rfl (fun ls hl => ?_)
  have key_1 : ∀ (fu_3 : Nat) (v1w4 : Int64) (v3w4 : Nat) (H_6 : Heap) (locs : List Loc) (ls : Array Slot), 6 - v3w4 < fu_3 → v3w4 ≤ 6 → WOK cy K L M → va_P D vwCl ([] ++ va_pl L M) H_6 → va_D A ([] ++ va_pl L M) → va_S A s.heap H_6 locs → lv_has ls 4 [(3, .int (nI v3w4)), (1, .long v1w4), (0, .ref oa)] → W p l e R s m ([.ref oa] : List Value).toArray below meth c H_6 locs 0 0 Q (F0 m 4 ls []) := by
    intro fu_3
    induction fu_3 with
    | zero => intro v1w4 v3w4 H_6 locs ls h; exact absurd h (Nat.not_lt_zero _)
    | succ fu_3 ih_2 =>
      intro v1w4 v3w4 H_6 locs ls hfu hx_5 hW hP hD hS hl
      refine lv_iload_n hx hb dX8_allDues_4 rfl (lv_at hl 0 rfl) ?_
      refine lv_bipush (v := 6) hx hb dX8_allDues_5 (by decide) ?_
      refine lv_icmp_ge (tgt := 25) hx hb dX8_allDues_7 (by decide) (fun c_7 => ?_) (fun c_7 => ?_)
      · have hz := rfl (a := 0)
        have n_8 : 6 ≤ v3w4 := (iLE (a := 6) (b := v3w4) (by omega) (by omega)).mp c_7
        refine lv_lload_n hx hb dX8_allDues_25 rfl (lv_at hl 1 rfl) ?_
        rw [hQ]
        exact W.lret (v := v1w4) hx hb hr (fun t ht hW9 => ⟨⟨v1w4, (), rfl, trivial, ⟨by rw [ht]; exact hP, hD⟩⟩, hS.F ht⟩) hS.2.2 dX8_allDues_26
      · have hz := rfl (a := 0)
        have n_9 : ¬ (6 ≤ v3w4) := fun q => c_7 ((iLE (a := 6) (b := v3w4) (by omega) (by omega)).mpr q)
        refine lv_lload_n hx hb dX8_allDues_10 rfl (lv_at hl 1 rfl) ?_
        refine lv_aload_n hx hb dX8_allDues_11 rfl (lv_at hl 2 rfl) ?_
        obtain ⟨v10_0, v10_1, v10_2, v10_3, v10_4, v10_5, hM10, h10_0, h10_1⟩ := hW.open_8 ia
        refine pg_get (D := D) (ci := 8) (v := .ref v10_1) (C := RX8) (T := TX8) (N := 6) hx hb hg inG8 hown hK hP ia.1 hM10 rfl 1 (by decide) (hg _ wd_182) (fun _ h9 => h9) rfl dX8_allDues_12 ?_
        refine lv_iload_n hx hb dX8_allDues_15 rfl (lv_at hl 0 rfl) ?_
        obtain ⟨f11, hM11⟩ := hW.open_72 h10_1
        refine pg_lald hx hb hK hP h10_1.1 1 hM11 rfl (inbN v3w4 6 (by omega) (by omega)) dX8_allDues_16 ?_
        refine lv_topl (fun f_12 ef_12 => ?_)
        refine lv_ladd hx hb dX8_allDues_17 ?_
        refine lv_topl (fun f_13 ef_13 => ?_)
        refine lv_lstore_n (lv' := [(1, .long f_13), (3, .int (nI v3w4)), (0, .ref oa)]) hx hb dX8_allDues_18 rfl hl (by decide) rfl (fun ls hl => ?_)
        refine lv_iinc (v := (nI (v3w4 + 1))) (lv' := [(3, .int (nI (v3w4 + 1))), (1, .long f_13), (0, .ref oa)]) hx hb dX8_allDues_19 hl (k := 1) rfl (nI_1 v3w4) (by decide) rfl (fun ls hl => ?_)
        refine lv_goto (tgt := 4) hx hb dX8_allDues_22 (by decide) ?_
        exact ih_2 f_13 (v3w4 + 1) H_6 _ _ (by omega) (by omega) hW hP hD hS (lv_sub hl [0, 1, 2] rfl)
  exact key_1 (6 - 0 + 1) 0 0 s.heap _ _ (by omega) (by omega) hW hP hD hS (lv_sub hl [0, 1, 2] rfl)
set_option maxHeartbeats 4000000 in
set_option maxRecDepth 100000 in
theorem s_X8_dueOf (l : Launch) (D : va_G) (cy : Nat → ClassId) (K : Kp) (L : List Nat) (M : Hp) (sz : Nat) (oa : Nat) (k1 : Nat) (hW : WOK cy K L M) (ia : isk K L oa 8 0) (ik1 : isk K L k1 9 0) : Met l yX8_dueOf (wsM yX8_dueOf cX8_dueOf 2 (some .long)) ({ frames := 1, cells := 0, slots := 0, locals := 20 }) (va_Pc [.ref oa, .ref k1] (PG D cy [] L M sz)) (va_Ql (fun (r : Int64) (_ : Unit) => True) (fun _ t => PQ D [] L M (va_A ([] ++ va_pl L M) sz) t) (va_A ([] ++ va_pl L M) sz)) 0 0 (va_A ([] ++ va_pl L M) sz) := by
  refine Met.ofW (cc := cX8_dueOf) (maxL := 2) (ret := (some .long)) (by decide) rfl ?_
  intro p e s m args below meth c s₁ B hml hv
  obtain ⟨rfl, hsz, hP, hK, hD0, hN⟩ := hv
  have hx := B.exec
  have hb := B.bytes
  have hr := B.returns
  have hts := atoms_spec (ws := (wsM yX8_dueOf cX8_dueOf 2 (some .long))) B.pre
  have hg : ∀ w ∈ lw_good, w.before _ s = true := fun w h => hts w (List.mem_cons_of_mem _ h)
  have hown : s.vm.findClass RX8 = some m.cls := findClass_of_methodNamed B.named
  have hlocks := B.notSynchronized
  subst hsz
  have hD := hD0.self (sz := s.heap.size)
  generalize hAe : va_A ([] ++ va_pl L M) s.heap.size = A at hD ⊢
  have hA : ∀ q : Nat, s.heap.size ≤ q → A q := fun q h => by rw [← hAe]; exact Or.inr h
  have hS : va_S A s.heap s.heap [] := va_S.rf
  have hl := lv_entry ([.ref oa, .ref k1]) (n := 2) (Nat.le_of_ble_eq_true rfl)
  rw [lg_entry_eq]
  generalize (lg_sl ([.ref oa, .ref k1]) ++ List.replicate (2 - (lg_sl ([.ref oa, .ref k1])).length) Slot.unset).toArray = ls at hl ⊢
  refine W.nameQ (fun Q hQ => ?_)
  refine W.nameR (fun R hR => ?_)
  have hRf : 1 ≤ R.frames := by rw [hR]; exact Nat.le_of_ble_eq_true rfl
  have hRl : 20 ≤ R.locals := by rw [hR]; exact Nat.le_of_ble_eq_true rfl
  have hRc : 0 ≤ R.cells := by rw [hR]; exact Nat.le_of_ble_eq_true rfl
  have hRs : 0 ≤ R.slots := by rw [hR]; exact Nat.le_of_ble_eq_true rfl
  have hl : lv_has ls 2 [(0, .ref oa), (1, .ref k1)] := hl
  refine lv_aload_n hx hb dX8_dueOf_0 rfl (lv_at hl 1 rfl) ?_
  obtain ⟨v1_0, v1_1, v1_2, v1_3, v1_4, v1_5, v1_6, v1_7, v1_8, v1_9, v1_10, v1_11, v1_12, v1_13, v1_14, v1_15, hM1, h1_0, h1_1, h1_4, h1_8⟩ := hW.open_9 ik1
  refine pg_get (D := D) (ci := 9) (v := .int v1_2) (C := RX9) (T := TX9) (N := 16) hx hb hg inG9 hown hK hP ik1.1 hM1 rfl 2 (by decide) (hg _ wd_189) (fun _ h9 => h9) rfl dX8_dueOf_1 ?_
  have hPc : va_P D vwCl ([] ++ va_pl L M) s.heap := hP
  have hDc : va_D A ([] ++ va_pl L M) := hD
  have hFc : ∀ q, va_A ([] ++ va_pl L M) s.heap.size q → A q := pg_free hDc hS hA
  refine va_calli (va_runSN (As := [.int v1_2]) (rest := []) ⟨hx, hb, hml, hown, hg⟩ (s_X11_isSeat l D cy K L M s.heap.size v1_2  hW ) ⟨va_cnB 1 hg (gB wd_46) rfl rfl rfl (hN _ (List.mem_of_getElem? (i := 7) rfl) : va_Nw (Cond.methodLinkNest RX8 50 yX11_isSeat RX11) s) (hg _ wd_3) (by decide +kernel) ⟨(Nat.le_trans (Nat.le_of_ble_eq_true rfl) hRf), (Nat.le_trans (Nat.le_of_ble_eq_true rfl) hRl)⟩, hg _ wd_47, trivial⟩ ⟨PG.blind, fun U hU hW => ⟨rfl, PG.at hPc hK hDc hN hU hW⟩⟩ rfl rfl hl.1 rfl (lv_room (Nat.le_of_ble_eq_true rfl)) dX8_dueOf_4 ⟨(Nat.le_trans (Nat.le_of_ble_eq_true rfl) hRc), (Nat.le_trans (Nat.le_of_ble_eq_true rfl) hRs)⟩) hS (fun q _ h => hFc q h) hFc (fun r_3 M_4 t H_2 locs ht hvm hw hB hz1 hk1 hS => ?_)
  have hp_5 := hw
  obtain ⟨hP1, hD1⟩ := hB
  rw [ht] at hP1
  have hP : va_P D vwCl ([] ++ va_pl L M) H_2 := hP1
  have hD : va_D A ([] ++ va_pl L M) := hD1.mono hFc
  rcases hp_5 with ⟨rfl, c_6, c_7⟩ | rfl
  · have hz := rfl (a := 0)
    refine lv_if_eq (tgt := 35) hx hb dX8_dueOf_7 (by decide) (fun c_8 => absurd c_8 (by decide)) (fun _ => ?_)
    refine lv_aload_n hx hb dX8_dueOf_10 rfl (lv_at hl 0 rfl) ?_
    obtain ⟨v9_0, v9_1, v9_2, v9_3, v9_4, v9_5, hM9, h9_0, h9_1⟩ := hW.open_8 ia
    refine pg_get (D := D) (ci := 8) (v := .ref v9_0) (C := RX8) (T := TX8) (N := 6) hx hb hg inG8 hown hK hP ia.1 hM9 rfl 0 (by decide) (hg _ wd_184) (fun _ h9 => h9) rfl dX8_dueOf_11 ?_
    refine lv_aload_n hx hb dX8_dueOf_14 rfl (lv_at hl 1 rfl) ?_
    refine pg_get (D := D) (ci := 9) (v := .int v1_2) (C := RX9) (T := TX9) (N := 16) hx hb hg inG9 hown hK hP ik1.1 hM1 rfl 2 (by decide) (hg _ wd_189) (fun _ h9 => h9) rfl dX8_dueOf_15 ?_
    obtain ⟨f10, hM10, hf10⟩ := hW.open_65 h9_0
    have hi_11 : vp_in v1_2 6 := (inb v1_2 6 (by omega) c_6 c_7)
    refine pg_aldq hx hb hK hP h9_0.1 8 hM10 rfl hi_11 dX8_dueOf_18 ?_
    obtain ⟨q_12, ho_13⟩ : ∃ q : Option Nat, q = f10 (v1_2 : Int32).toNatClampNeg := ⟨_, rfl⟩
    rw [← ho_13]
    have hq_14 : iskN K L q_12 9 0 := by rw [ho_13]; exact hf10 _ (vp_lt hi_11)
    rcases q_12 with _ | bq_12
    · have hz := rfl (a := 0)
      refine lv_aload_n hx hb dX8_dueOf_19 rfl (lv_at hl 1 rfl) ?_
      refine lv_acmp_ne (rx := none) (ry := (some k1)) (tgt := 35) hx hb dX8_dueOf_20 (by decide) (fun c_16 => ?_) (fun c_16 => ?_)
      · have hz := rfl (a := 0)
        refine lv_lconst (v := 0) hx hb dX8_dueOf_35 (by decide) ?_
        rw [hQ]
        exact W.lret (v := 0) hx hb hr (fun t ht hW9 => ⟨⟨0, (), rfl, trivial, ⟨by rw [ht]; exact hP, hD⟩⟩, hS.F ht⟩) hS.2.2 dX8_dueOf_36
      · have hz := rfl (a := 0)
        refine lv_aload_n hx hb dX8_dueOf_23 rfl (lv_at hl 0 rfl) ?_
        refine pg_get (D := D) (ci := 8) (v := .ref v9_1) (C := RX8) (T := TX8) (N := 6) hx hb hg inG8 hown hK hP ia.1 hM9 rfl 1 (by decide) (hg _ wd_182) (fun _ h9 => h9) rfl dX8_dueOf_24 ?_
        refine lv_aload_n hx hb dX8_dueOf_27 rfl (lv_at hl 1 rfl) ?_
        refine pg_get (D := D) (ci := 9) (v := .int v1_2) (C := RX9) (T := TX9) (N := 16) hx hb hg inG9 hown hK hP ik1.1 hM1 rfl 2 (by decide) (hg _ wd_189) (fun _ h9 => h9) rfl dX8_dueOf_28 ?_
        obtain ⟨f17, hM17⟩ := hW.open_72 h9_1
        refine pg_lald hx hb hK hP h9_1.1 1 hM17 rfl (inb v1_2 6 (by omega) c_6 c_7) dX8_dueOf_31 ?_
        refine lv_topl (fun f_18 ef_18 => ?_)
        refine lv_goto (tgt := 36) hx hb dX8_dueOf_32 (by decide) ?_
        rw [hQ]
        exact W.lret (v := f_18) hx hb hr (fun t ht hW9 => ⟨⟨f_18, (), rfl, trivial, ⟨by rw [ht]; exact hP, hD⟩⟩, hS.F ht⟩) hS.2.2 dX8_dueOf_36
    · have hb_15 := hq_14 bq_12 rfl
      refine lv_aload_n hx hb dX8_dueOf_19 rfl (lv_at hl 1 rfl) ?_
      refine lv_acmp_ne (rx := (some bq_12)) (ry := (some k1)) (tgt := 35) hx hb dX8_dueOf_20 (by decide) (fun c_19 => ?_) (fun c_19 => ?_)
      · have hz := rfl (a := 0)
        refine lv_lconst (v := 0) hx hb dX8_dueOf_35 (by decide) ?_
        rw [hQ]
        exact W.lret (v := 0) hx hb hr (fun t ht hW9 => ⟨⟨0, (), rfl, trivial, ⟨by rw [ht]; exact hP, hD⟩⟩, hS.F ht⟩) hS.2.2 dX8_dueOf_36
      · have hz := rfl (a := 0)
        refine lv_aload_n hx hb dX8_dueOf_23 rfl (lv_at hl 0 rfl) ?_
        refine pg_get (D := D) (ci := 8) (v := .ref v9_1) (C := RX8) (T := TX8) (N := 6) hx hb hg inG8 hown hK hP ia.1 hM9 rfl 1 (by decide) (hg _ wd_182) (fun _ h9 => h9) rfl dX8_dueOf_24 ?_
        refine lv_aload_n hx hb dX8_dueOf_27 rfl (lv_at hl 1 rfl) ?_
        refine pg_get (D := D) (ci := 9) (v := .int v1_2) (C := RX9) (T := TX9) (N := 16) hx hb hg inG9 hown hK hP ik1.1 hM1 rfl 2 (by decide) (hg _ wd_189) (fun _ h9 => h9) rfl dX8_dueOf_28 ?_
        obtain ⟨f20, hM20⟩ := hW.open_72 h9_1
        refine pg_lald hx hb hK hP h9_1.1 1 hM20 rfl (inb v1_2 6 (by omega) c_6 c_7) dX8_dueOf_31 ?_
        refine lv_topl (fun f_21 ef_21 => ?_)
        refine lv_goto (tgt := 36) hx hb dX8_dueOf_32 (by decide) ?_
        rw [hQ]
        exact W.lret (v := f_21) hx hb hr (fun t ht hW9 => ⟨⟨f_21, (), rfl, trivial, ⟨by rw [ht]; exact hP, hD⟩⟩, hS.F ht⟩) hS.2.2 dX8_dueOf_36
  · have hz := rfl (a := 0)
    refine lv_if_eq (tgt := 35) hx hb dX8_dueOf_7 (by decide) (fun _ => ?_) (fun c_22 => absurd c_22 (by decide))
    refine lv_lconst (v := 0) hx hb dX8_dueOf_35 (by decide) ?_
    rw [hQ]
    exact W.lret (v := 0) hx hb hr (fun t ht hW9 => ⟨⟨0, (), rfl, trivial, ⟨by rw [ht]; exact hP, hD⟩⟩, hS.F ht⟩) hS.2.2 dX8_dueOf_36
set_option maxHeartbeats 4000000 in
set_option maxRecDepth 100000 in
theorem s_X8_factOf (l : Launch) (D : va_G) (cy : Nat → ClassId) (K : Kp) (L : List Nat) (M : Hp) (sz : Nat) (oa : Nat) (k1 : Int32) (hW : WOK cy K L M) (ia : isk K L oa 8 0) : Met l yX8_factOf (wsM yX8_factOf cX8_factOf 2 (some .long)) ({ frames := 1, cells := 0, slots := 0, locals := 23 }) (va_Pc [.ref oa, .int k1] (PG D cy [] L M sz)) (va_Ql (fun (r : Int64) (_ : Unit) => True) (fun _ t => PQ D [] L M (va_A ([] ++ va_pl L M) sz) t) (va_A ([] ++ va_pl L M) sz)) 0 0 (va_A ([] ++ va_pl L M) sz) := by
  refine Met.ofW (cc := cX8_factOf) (maxL := 2) (ret := (some .long)) (by decide) rfl ?_
  intro p e s m args below meth c s₁ B hml hv
  obtain ⟨rfl, hsz, hP, hK, hD0, hN⟩ := hv
  have hx := B.exec
  have hb := B.bytes
  have hr := B.returns
  have hts := atoms_spec (ws := (wsM yX8_factOf cX8_factOf 2 (some .long))) B.pre
  have hg : ∀ w ∈ lw_good, w.before _ s = true := fun w h => hts w (List.mem_cons_of_mem _ h)
  have hown : s.vm.findClass RX8 = some m.cls := findClass_of_methodNamed B.named
  have hlocks := B.notSynchronized
  subst hsz
  have hD := hD0.self (sz := s.heap.size)
  generalize hAe : va_A ([] ++ va_pl L M) s.heap.size = A at hD ⊢
  have hA : ∀ q : Nat, s.heap.size ≤ q → A q := fun q h => by rw [← hAe]; exact Or.inr h
  have hS : va_S A s.heap s.heap [] := va_S.rf
  have hl := lv_entry ([.ref oa, .int k1]) (n := 2) (Nat.le_of_ble_eq_true rfl)
  rw [lg_entry_eq]
  generalize (lg_sl ([.ref oa, .int k1]) ++ List.replicate (2 - (lg_sl ([.ref oa, .int k1])).length) Slot.unset).toArray = ls at hl ⊢
  refine W.nameQ (fun Q hQ => ?_)
  refine W.nameR (fun R hR => ?_)
  have hRf : 1 ≤ R.frames := by rw [hR]; exact Nat.le_of_ble_eq_true rfl
  have hRl : 23 ≤ R.locals := by rw [hR]; exact Nat.le_of_ble_eq_true rfl
  have hRc : 0 ≤ R.cells := by rw [hR]; exact Nat.le_of_ble_eq_true rfl
  have hRs : 0 ≤ R.slots := by rw [hR]; exact Nat.le_of_ble_eq_true rfl
  have hl : lv_has ls 2 [(0, .ref oa), (1, .int k1)] := hl
  refine lv_iload_n hx hb dX8_factOf_0 rfl (lv_at hl 1 rfl) ?_
  by_cases hout : (k1 : Int32).toInt < 0 ∨ 5 < (k1 : Int32).toInt
  · refine lv_tableOut (tgt := 73) hx hb dX8_factOf_1 hout (by decide) ?_
    refine lv_lconst (v := 0) hx hb dX8_factOf_73 (by decide) ?_
    rw [hQ]
    exact W.lret (v := 0) hx hb hr (fun t ht hW9 => ⟨⟨0, (), rfl, trivial, ⟨by rw [ht]; exact hP, hD⟩⟩, hS.F ht⟩) hS.2.2 dX8_factOf_74
  · obtain ⟨j_1, hj, hj2⟩ : ∃ j : Nat, j ≤ 5 ∧ (k1 : Int32).toInt = (j : Int) := ⟨(k1 : Int32).toInt.toNat, by omega, by omega⟩
    rcases (show j_1 = 0 ∨ j_1 = 1 ∨ j_1 = 2 ∨ j_1 = 3 ∨ j_1 = 4 ∨ j_1 = 5 by omega) with rfl | rfl | rfl | rfl | rfl | rfl
    · refine lv_tableIn (tgt := 40) hx hb dX8_factOf_1 (by omega) (by omega) (by rw [hj2]; rfl) (by decide) ?_
      refine lv_aload_n hx hb dX8_factOf_40 rfl (lv_at hl 0 rfl) ?_
      obtain ⟨v2_0, v2_1, v2_2, v2_3, v2_4, v2_5, hM2, h2_0, h2_1⟩ := hW.open_8 ia
      refine pg_get (D := D) (ci := 8) (v := .int v2_2) (C := RX8) (T := TX8) (N := 6) hx hb hg inG8 hown hK hP ia.1 hM2 rfl 2 (by decide) (hg _ wd_178) (fun _ h9 => h9) rfl dX8_factOf_41 ?_
      refine lv_i2l hx hb dX8_factOf_44 rfl ?_
      refine lv_topl (fun f_3 ef_3 => ?_)
      rw [hQ]
      exact W.lret (v := f_3) hx hb hr (fun t ht hW9 => ⟨⟨f_3, (), rfl, trivial, ⟨by rw [ht]; exact hP, hD⟩⟩, hS.F ht⟩) hS.2.2 dX8_factOf_45
    · refine lv_tableIn (tgt := 46) hx hb dX8_factOf_1 (by omega) (by omega) (by rw [hj2]; rfl) (by decide) ?_
      refine lv_aload_n hx hb dX8_factOf_46 rfl (lv_at hl 0 rfl) ?_
      obtain ⟨v4_0, v4_1, v4_2, v4_3, v4_4, v4_5, hM4, h4_0, h4_1⟩ := hW.open_8 ia
      refine pg_get (D := D) (ci := 8) (v := .int v4_3) (C := RX8) (T := TX8) (N := 6) hx hb hg inG8 hown hK hP ia.1 hM4 rfl 3 (by decide) (hg _ wd_179) (fun _ h9 => h9) rfl dX8_factOf_47 ?_
      refine lv_i2l hx hb dX8_factOf_50 rfl ?_
      refine lv_topl (fun f_5 ef_5 => ?_)
      rw [hQ]
      exact W.lret (v := f_5) hx hb hr (fun t ht hW9 => ⟨⟨f_5, (), rfl, trivial, ⟨by rw [ht]; exact hP, hD⟩⟩, hS.F ht⟩) hS.2.2 dX8_factOf_51
    · refine lv_tableIn (tgt := 52) hx hb dX8_factOf_1 (by omega) (by omega) (by rw [hj2]; rfl) (by decide) ?_
      refine lv_aload_n hx hb dX8_factOf_52 rfl (lv_at hl 0 rfl) ?_
      obtain ⟨v6_0, v6_1, v6_2, v6_3, v6_4, v6_5, hM6, h6_0, h6_1⟩ := hW.open_8 ia
      refine pg_get (D := D) (ci := 8) (v := .long v6_4) (C := RX8) (T := TX8) (N := 6) hx hb hg inG8 hown hK hP ia.1 hM6 rfl 4 (by decide) (hg _ wd_180) (fun _ h9 => h9) rfl dX8_factOf_53 ?_
      rw [hQ]
      exact W.lret (v := v6_4) hx hb hr (fun t ht hW9 => ⟨⟨v6_4, (), rfl, trivial, ⟨by rw [ht]; exact hP, hD⟩⟩, hS.F ht⟩) hS.2.2 dX8_factOf_56
    · refine lv_tableIn (tgt := 57) hx hb dX8_factOf_1 (by omega) (by omega) (by rw [hj2]; rfl) (by decide) ?_
      refine lv_aload_n hx hb dX8_factOf_57 rfl (lv_at hl 0 rfl) ?_
      obtain ⟨v7_0, v7_1, v7_2, v7_3, v7_4, v7_5, hM7, h7_0, h7_1⟩ := hW.open_8 ia
      refine pg_get (D := D) (ci := 8) (v := .long v7_5) (C := RX8) (T := TX8) (N := 6) hx hb hg inG8 hown hK hP ia.1 hM7 rfl 5 (by decide) (hg _ wd_181) (fun _ h9 => h9) rfl dX8_factOf_58 ?_
      rw [hQ]
      exact W.lret (v := v7_5) hx hb hr (fun t ht hW9 => ⟨⟨v7_5, (), rfl, trivial, ⟨by rw [ht]; exact hP, hD⟩⟩, hS.F ht⟩) hS.2.2 dX8_factOf_61
    · refine lv_tableIn (tgt := 62) hx hb dX8_factOf_1 (by omega) (by omega) (by rw [hj2]; rfl) (by decide) ?_
      refine lv_aload_n hx hb dX8_factOf_62 rfl (lv_at hl 0 rfl) ?_
      obtain ⟨v8_0, v8_1, v8_2, v8_3, v8_4, v8_5, hM8, h8_0, h8_1⟩ := hW.open_8 ia
      have hPc : va_P D vwCl ([] ++ va_pl L M) s.heap := hP
      have hDc : va_D A ([] ++ va_pl L M) := hD
      have hFc : ∀ q, va_A ([] ++ va_pl L M) s.heap.size q → A q := pg_free hDc hS hA
      refine va_calll (va_runV (As := []) (rest := []) ⟨hx, hb, hml, hown, hg⟩ (s_X8_allDues l D cy K L M s.heap.size oa  hW ia) (cwV 0 hg (gV wd_190 wd_191 wd_192 wd_193 wd_194) rfl rfl rfl (by decide +kernel) ⟨(Nat.le_trans (Nat.le_of_ble_eq_true rfl) hRf), (Nat.le_trans (Nat.le_of_ble_eq_true rfl) hRl)⟩) ⟨PG.blind, pg_recv hK hP ia.1 hM8 rfl, fun U hU hW => ⟨rfl, PG.at hPc hK hDc hN hU hW⟩⟩ rfl rfl hl.1 rfl (lv_room (Nat.le_of_ble_eq_true rfl)) dX8_factOf_63 ⟨(Nat.le_trans (Nat.le_of_ble_eq_true rfl) hRc), (Nat.le_trans (Nat.le_of_ble_eq_true rfl) hRs)⟩) hS (fun q _ h => hFc q h) hFc (fun r_10 M_11 t H_9 locs ht hvm hw hB hz1 hk1 hS => ?_)
      have hp_12 := hw
      obtain ⟨hP1, hD1⟩ := hB
      rw [ht] at hP1
      have hP : va_P D vwCl ([] ++ va_pl L M) H_9 := hP1
      have hD : va_D A ([] ++ va_pl L M) := hD1.mono hFc
      rw [hQ]
      exact W.lret (v := r_10) hx hb hr (fun t ht hW9 => ⟨⟨r_10, (), rfl, trivial, ⟨by rw [ht]; exact hP, hD⟩⟩, hS.F ht⟩) hS.2.2 dX8_factOf_66
    · refine lv_tableIn (tgt := 67) hx hb dX8_factOf_1 (by omega) (by omega) (by rw [hj2]; rfl) (by decide) ?_
      refine lv_aload_n hx hb dX8_factOf_67 rfl (lv_at hl 0 rfl) ?_
      obtain ⟨v13_0, v13_1, v13_2, v13_3, v13_4, v13_5, hM13, h13_0, h13_1⟩ := hW.open_8 ia
      have hPc : va_P D vwCl ([] ++ va_pl L M) s.heap := hP
      have hDc : va_D A ([] ++ va_pl L M) := hD
      have hFc : ∀ q, va_A ([] ++ va_pl L M) s.heap.size q → A q := pg_free hDc hS hA
      refine va_calli (va_runV (As := []) (rest := []) ⟨hx, hb, hml, hown, hg⟩ (s_X8_howManyIn l D cy K L M s.heap.size oa  hW ia) (cwV 0 hg (gV wd_195 wd_196 wd_197 wd_193 wd_198) rfl rfl rfl (by decide +kernel) ⟨(Nat.le_trans (Nat.le_of_ble_eq_true rfl) hRf), (Nat.le_trans (Nat.le_of_ble_eq_true rfl) hRl)⟩) ⟨PG.blind, pg_recv hK hP ia.1 hM13 rfl, fun U hU hW => ⟨rfl, PG.at hPc hK hDc hN hU hW⟩⟩ rfl rfl hl.1 rfl (lv_room (Nat.le_of_ble_eq_true rfl)) dX8_factOf_68 ⟨(Nat.le_trans (Nat.le_of_ble_eq_true rfl) hRc), (Nat.le_trans (Nat.le_of_ble_eq_true rfl) hRs)⟩) hS (fun q _ h => hFc q h) hFc (fun r_15 M_16 t H_14 locs ht hvm hw hB hz1 hk1 hS => ?_)
      have hp_17 := hw
      obtain ⟨hP1, hD1⟩ := hB
      rw [ht] at hP1
      have hP : va_P D vwCl ([] ++ va_pl L M) H_14 := hP1
      have hD : va_D A ([] ++ va_pl L M) := hD1.mono hFc
      refine lv_i2l hx hb dX8_factOf_71 rfl ?_
      refine lv_topl (fun f_18 ef_18 => ?_)
      rw [hQ]
      exact W.lret (v := f_18) hx hb hr (fun t ht hW9 => ⟨⟨f_18, (), rfl, trivial, ⟨by rw [ht]; exact hP, hD⟩⟩, hS.F ht⟩) hS.2.2 dX8_factOf_72
