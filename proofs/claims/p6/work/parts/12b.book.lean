theorem dX11_undo_0 : decode cX11_undo 0 = .ok (.aload_n 0, 1) := by decide +kernel
theorem dX11_undo_1 : decode cX11_undo 1 = .ok (.iload_n 1, 1) := by decide +kernel
theorem dX11_undo_2 : decode cX11_undo 2 = .ok (.invokevirtual 65, 3) := by decide +kernel
theorem dX11_undo_5 : decode cX11_undo 5 = .ok (.astore_n 2, 1) := by decide +kernel
theorem dX11_undo_6 : decode cX11_undo 6 = .ok (.aload_n 2, 1) := by decide +kernel
theorem dX11_undo_7 : decode cX11_undo 7 = .ok (.ifnonnull 9, 3) := by decide +kernel
theorem dX11_undo_10 : decode cX11_undo 10 = .ok (.aload_n 0, 1) := by decide +kernel
theorem dX11_undo_11 : decode cX11_undo 11 = .ok (.iconst 1, 1) := by decide +kernel
theorem dX11_undo_12 : decode cX11_undo 12 = .ok (.invokevirtual 47, 3) := by decide +kernel
theorem dX11_undo_15 : decode cX11_undo 15 = .ok (.ireturn, 1) := by decide +kernel
theorem dX11_undo_16 : decode cX11_undo 16 = .ok (.aload_n 2, 1) := by decide +kernel
theorem dX11_undo_17 : decode cX11_undo 17 = .ok (.getfield 187, 3) := by decide +kernel
theorem dX11_undo_20 : decode cX11_undo 20 = .ok (.getfield 248, 3) := by decide +kernel
theorem dX11_undo_23 : decode cX11_undo 23 = .ok (.ifCond .ne 9, 3) := by decide +kernel
theorem dX11_undo_26 : decode cX11_undo 26 = .ok (.aload_n 0, 1) := by decide +kernel
theorem dX11_undo_27 : decode cX11_undo 27 = .ok (.iconst 0, 1) := by decide +kernel
theorem dX11_undo_28 : decode cX11_undo 28 = .ok (.invokevirtual 57, 3) := by decide +kernel
theorem dX11_undo_31 : decode cX11_undo 31 = .ok (.ireturn, 1) := by decide +kernel
theorem dX11_undo_32 : decode cX11_undo 32 = .ok (.aload_n 2, 1) := by decide +kernel
theorem dX11_undo_33 : decode cX11_undo 33 = .ok (.getfield 187, 3) := by decide +kernel
theorem dX11_undo_36 : decode cX11_undo 36 = .ok (.invokevirtual 249, 3) := by decide +kernel
theorem dX11_undo_39 : decode cX11_undo 39 = .ok (.istore_n 3, 1) := by decide +kernel
theorem dX11_undo_40 : decode cX11_undo 40 = .ok (.iload_n 3, 1) := by decide +kernel
theorem dX11_undo_41 : decode cX11_undo 41 = .ok (.iconst (-1), 1) := by decide +kernel
theorem dX11_undo_42 : decode cX11_undo 42 = .ok (.if_icmp .ne 13, 3) := by decide +kernel
theorem dX11_undo_45 : decode cX11_undo 45 = .ok (.aload_n 2, 1) := by decide +kernel
theorem dX11_undo_46 : decode cX11_undo 46 = .ok (.getfield 226, 3) := by decide +kernel
theorem dX11_undo_49 : decode cX11_undo 49 = .ok (.invokevirtual 253, 3) := by decide +kernel
theorem dX11_undo_52 : decode cX11_undo 52 = .ok (.goto 8, 3) := by decide +kernel
theorem dX11_undo_55 : decode cX11_undo 55 = .ok (.aload_n 2, 1) := by decide +kernel
theorem dX11_undo_56 : decode cX11_undo 56 = .ok (.iload_n 3, 1) := by decide +kernel
theorem dX11_undo_57 : decode cX11_undo 57 = .ok (.invokevirtual 256, 3) := by decide +kernel
theorem dX11_undo_60 : decode cX11_undo 60 = .ok (.aload_n 0, 1) := by decide +kernel
theorem dX11_undo_61 : decode cX11_undo 61 = .ok (.iconst 1, 1) := by decide +kernel
theorem dX11_undo_62 : decode cX11_undo 62 = .ok (.invokevirtual 57, 3) := by decide +kernel
theorem dX11_undo_65 : decode cX11_undo 65 = .ok (.ireturn, 1) := by decide +kernel
theorem dX11_end_0 : decode cX11_end 0 = .ok (.aload_n 0, 1) := by decide +kernel
theorem dX11_end_1 : decode cX11_end 1 = .ok (.iload_n 1, 1) := by decide +kernel
theorem dX11_end_2 : decode cX11_end 2 = .ok (.invokevirtual 65, 3) := by decide +kernel
theorem dX11_end_5 : decode cX11_end 5 = .ok (.astore_n 3, 1) := by decide +kernel
theorem dX11_end_6 : decode cX11_end 6 = .ok (.aload_n 3, 1) := by decide +kernel
theorem dX11_end_7 : decode cX11_end 7 = .ok (.ifnonnull 9, 3) := by decide +kernel
theorem dX11_end_10 : decode cX11_end 10 = .ok (.aload_n 0, 1) := by decide +kernel
theorem dX11_end_11 : decode cX11_end 11 = .ok (.iconst 1, 1) := by decide +kernel
theorem dX11_end_12 : decode cX11_end 12 = .ok (.invokevirtual 47, 3) := by decide +kernel
theorem dX11_end_15 : decode cX11_end 15 = .ok (.ireturn, 1) := by decide +kernel
theorem dX11_end_16 : decode cX11_end 16 = .ok (.aload_n 3, 1) := by decide +kernel
theorem dX11_end_17 : decode cX11_end 17 = .ok (.invokevirtual 260, 3) := by decide +kernel
theorem dX11_end_20 : decode cX11_end 20 = .ok (.istore 4, 2) := by decide +kernel
theorem dX11_end_22 : decode cX11_end 22 = .ok (.iload_n 2, 1) := by decide +kernel
theorem dX11_end_23 : decode cX11_end 23 = .ok (.ifCond .lt 25, 3) := by decide +kernel
theorem dX11_end_26 : decode cX11_end 26 = .ok (.iload_n 2, 1) := by decide +kernel
theorem dX11_end_27 : decode cX11_end 27 = .ok (.sipush 999, 3) := by decide +kernel
theorem dX11_end_30 : decode cX11_end 30 = .ok (.if_icmp .gt 18, 3) := by decide +kernel
theorem dX11_end_33 : decode cX11_end 33 = .ok (.iload_n 2, 1) := by decide +kernel
theorem dX11_end_34 : decode cX11_end 34 = .ok (.iload 4, 2) := by decide +kernel
theorem dX11_end_36 : decode cX11_end 36 = .ok (.if_icmp .lt 12, 3) := by decide +kernel
theorem dX11_end_39 : decode cX11_end 39 = .ok (.iload_n 2, 1) := by decide +kernel
theorem dX11_end_40 : decode cX11_end 40 = .ok (.iload 4, 2) := by decide +kernel
theorem dX11_end_42 : decode cX11_end 42 = .ok (.isub, 1) := by decide +kernel
theorem dX11_end_43 : decode cX11_end 43 = .ok (.bipush 100, 2) := by decide +kernel
theorem dX11_end_45 : decode cX11_end 45 = .ok (.if_icmp .lt 9, 3) := by decide +kernel
theorem dX11_end_48 : decode cX11_end 48 = .ok (.aload_n 0, 1) := by decide +kernel
theorem dX11_end_49 : decode cX11_end 49 = .ok (.iconst 3, 1) := by decide +kernel
theorem dX11_end_50 : decode cX11_end 50 = .ok (.invokevirtual 47, 3) := by decide +kernel
theorem dX11_end_53 : decode cX11_end 53 = .ok (.ireturn, 1) := by decide +kernel
theorem dX11_end_54 : decode cX11_end 54 = .ok (.aload_n 3, 1) := by decide +kernel
theorem dX11_end_55 : decode cX11_end 55 = .ok (.getfield 263, 3) := by decide +kernel
theorem dX11_end_58 : decode cX11_end 58 = .ok (.bipush 12, 2) := by decide +kernel
theorem dX11_end_60 : decode cX11_end 60 = .ok (.if_icmp .lt 10, 3) := by decide +kernel
theorem dX11_end_63 : decode cX11_end 63 = .ok (.aload_n 0, 1) := by decide +kernel
theorem dX11_end_64 : decode cX11_end 64 = .ok (.bipush 9, 2) := by decide +kernel
theorem dX11_end_66 : decode cX11_end 66 = .ok (.invokevirtual 47, 3) := by decide +kernel
theorem dX11_end_69 : decode cX11_end 69 = .ok (.ireturn, 1) := by decide +kernel
theorem dX11_end_70 : decode cX11_end 70 = .ok (.aload_n 3, 1) := by decide +kernel
theorem dX11_end_71 : decode cX11_end 71 = .ok (.getfield 266, 3) := by decide +kernel
theorem dX11_end_74 : decode cX11_end 74 = .ok (.aload_n 3, 1) := by decide +kernel
theorem dX11_end_75 : decode cX11_end 75 = .ok (.getfield 263, 3) := by decide +kernel
theorem dX11_end_78 : decode cX11_end 78 = .ok (.iload_n 2, 1) := by decide +kernel
theorem dX11_end_79 : decode cX11_end 79 = .ok (.iastore, 1) := by decide +kernel
theorem dX11_end_80 : decode cX11_end 80 = .ok (.aload_n 3, 1) := by decide +kernel
theorem dX11_end_81 : decode cX11_end 81 = .ok (.dup, 1) := by decide +kernel
theorem dX11_end_82 : decode cX11_end 82 = .ok (.getfield 263, 3) := by decide +kernel
theorem dX11_end_85 : decode cX11_end 85 = .ok (.iconst 1, 1) := by decide +kernel
theorem dX11_end_86 : decode cX11_end 86 = .ok (.iadd, 1) := by decide +kernel
theorem dX11_end_87 : decode cX11_end 87 = .ok (.putfield 263, 3) := by decide +kernel
theorem dX11_end_90 : decode cX11_end 90 = .ok (.aload_n 0, 1) := by decide +kernel
theorem dX11_end_91 : decode cX11_end 91 = .ok (.aload_n 3, 1) := by decide +kernel
theorem dX11_end_92 : decode cX11_end 92 = .ok (.getfield 263, 3) := by decide +kernel
theorem dX11_end_95 : decode cX11_end 95 = .ok (.invokevirtual 57, 3) := by decide +kernel
theorem dX11_end_98 : decode cX11_end 98 = .ok (.ireturn, 1) := by decide +kernel
theorem dX11_mend_0 : decode cX11_mend 0 = .ok (.aload_n 0, 1) := by decide +kernel
theorem dX11_mend_1 : decode cX11_mend 1 = .ok (.iload_n 1, 1) := by decide +kernel
theorem dX11_mend_2 : decode cX11_mend 2 = .ok (.invokevirtual 65, 3) := by decide +kernel
theorem dX11_mend_5 : decode cX11_mend 5 = .ok (.astore 4, 2) := by decide +kernel
theorem dX11_mend_7 : decode cX11_mend 7 = .ok (.aload 4, 2) := by decide +kernel
theorem dX11_mend_9 : decode cX11_mend 9 = .ok (.ifnonnull 9, 3) := by decide +kernel
theorem dX11_mend_12 : decode cX11_mend 12 = .ok (.aload_n 0, 1) := by decide +kernel
theorem dX11_mend_13 : decode cX11_mend 13 = .ok (.iconst 1, 1) := by decide +kernel
theorem dX11_mend_14 : decode cX11_mend 14 = .ok (.invokevirtual 47, 3) := by decide +kernel
theorem dX11_mend_17 : decode cX11_mend 17 = .ok (.ireturn, 1) := by decide +kernel
theorem dX11_mend_18 : decode cX11_mend 18 = .ok (.iload_n 3, 1) := by decide +kernel
theorem dX11_mend_19 : decode cX11_mend 19 = .ok (.ifCond .eq 15, 3) := by decide +kernel
theorem dX11_mend_22 : decode cX11_mend 22 = .ok (.iload_n 3, 1) := by decide +kernel
theorem dX11_mend_23 : decode cX11_mend 23 = .ok (.ldc 207, 2) := by decide +kernel
theorem dX11_mend_25 : decode cX11_mend 25 = .ok (.if_icmp .lt 9, 3) := by decide +kernel
theorem dX11_mend_28 : decode cX11_mend 28 = .ok (.iload_n 3, 1) := by decide +kernel
theorem dX11_mend_29 : decode cX11_mend 29 = .ok (.ldc 64, 2) := by decide +kernel
theorem dX11_mend_31 : decode cX11_mend 31 = .ok (.if_icmp .le 9, 3) := by decide +kernel
theorem dX11_mend_34 : decode cX11_mend 34 = .ok (.aload_n 0, 1) := by decide +kernel
theorem dX11_mend_35 : decode cX11_mend 35 = .ok (.iconst 2, 1) := by decide +kernel
theorem dX11_mend_36 : decode cX11_mend 36 = .ok (.invokevirtual 47, 3) := by decide +kernel
theorem dX11_mend_39 : decode cX11_mend 39 = .ok (.ireturn, 1) := by decide +kernel
theorem dX11_mend_40 : decode cX11_mend 40 = .ok (.iload_n 2, 1) := by decide +kernel
theorem dX11_mend_41 : decode cX11_mend 41 = .ok (.aload 4, 2) := by decide +kernel
theorem dX11_mend_43 : decode cX11_mend 43 = .ok (.getfield 153, 3) := by decide +kernel
theorem dX11_mend_46 : decode cX11_mend 46 = .ok (.if_icmp .lt 12, 3) := by decide +kernel
theorem dX11_mend_49 : decode cX11_mend 49 = .ok (.iload_n 2, 1) := by decide +kernel
theorem dX11_mend_50 : decode cX11_mend 50 = .ok (.aload 4, 2) := by decide +kernel
theorem dX11_mend_52 : decode cX11_mend 52 = .ok (.getfield 293, 3) := by decide +kernel
theorem dX11_mend_55 : decode cX11_mend 55 = .ok (.if_icmp .le 9, 3) := by decide +kernel
theorem dX11_mend_58 : decode cX11_mend 58 = .ok (.aload_n 0, 1) := by decide +kernel
theorem dX11_mend_59 : decode cX11_mend 59 = .ok (.iconst 3, 1) := by decide +kernel
theorem dX11_mend_60 : decode cX11_mend 60 = .ok (.invokevirtual 47, 3) := by decide +kernel
theorem dX11_mend_63 : decode cX11_mend 63 = .ok (.ireturn, 1) := by decide +kernel
theorem dX11_mend_64 : decode cX11_mend 64 = .ok (.aload 4, 2) := by decide +kernel
theorem dX11_mend_66 : decode cX11_mend 66 = .ok (.getfield 296, 3) := by decide +kernel
theorem dX11_mend_69 : decode cX11_mend 69 = .ok (.invokevirtual 230, 3) := by decide +kernel
theorem dX11_mend_72 : decode cX11_mend 72 = .ok (.ifCond .eq 10, 3) := by decide +kernel
theorem dX11_mend_75 : decode cX11_mend 75 = .ok (.aload_n 0, 1) := by decide +kernel
theorem dX11_mend_76 : decode cX11_mend 76 = .ok (.bipush 9, 2) := by decide +kernel
theorem dX11_mend_78 : decode cX11_mend 78 = .ok (.invokevirtual 47, 3) := by decide +kernel
theorem dX11_mend_81 : decode cX11_mend 81 = .ok (.ireturn, 1) := by decide +kernel
theorem dX11_mend_82 : decode cX11_mend 82 = .ok (.aload 4, 2) := by decide +kernel
theorem dX11_mend_84 : decode cX11_mend 84 = .ok (.getfield 296, 3) := by decide +kernel
theorem dX11_mend_87 : decode cX11_mend 87 = .ok (.aconst_null, 1) := by decide +kernel
theorem dX11_mend_88 : decode cX11_mend 88 = .ok (.iload_n 2, 1) := by decide +kernel
theorem dX11_mend_89 : decode cX11_mend 89 = .ok (.iload_n 3, 1) := by decide +kernel
theorem dX11_mend_90 : decode cX11_mend 90 = .ok (.invokevirtual 235, 3) := by decide +kernel
theorem dX11_mend_93 : decode cX11_mend 93 = .ok (.aload_n 0, 1) := by decide +kernel
theorem dX11_mend_94 : decode cX11_mend 94 = .ok (.aload 4, 2) := by decide +kernel
theorem dX11_mend_96 : decode cX11_mend 96 = .ok (.getfield 296, 3) := by decide +kernel
theorem dX11_mend_99 : decode cX11_mend 99 = .ok (.getfield 242, 3) := by decide +kernel
theorem dX11_mend_102 : decode cX11_mend 102 = .ok (.invokevirtual 57, 3) := by decide +kernel
theorem dX11_mend_105 : decode cX11_mend 105 = .ok (.ireturn, 1) := by decide +kernel
theorem dX11_hidden_0 : decode cX11_hidden 0 = .ok (.aload_n 0, 1) := by decide +kernel
theorem dX11_hidden_1 : decode cX11_hidden 1 = .ok (.iload_n 1, 1) := by decide +kernel
theorem dX11_hidden_2 : decode cX11_hidden 2 = .ok (.invokevirtual 65, 3) := by decide +kernel
theorem dX11_hidden_5 : decode cX11_hidden 5 = .ok (.astore 4, 2) := by decide +kernel
theorem dX11_hidden_7 : decode cX11_hidden 7 = .ok (.aload 4, 2) := by decide +kernel
theorem dX11_hidden_9 : decode cX11_hidden 9 = .ok (.ifnull 11, 3) := by decide +kernel
theorem dX11_hidden_12 : decode cX11_hidden 12 = .ok (.aload 4, 2) := by decide +kernel
theorem dX11_hidden_14 : decode cX11_hidden 14 = .ok (.getfield 161, 3) := by decide +kernel
theorem dX11_hidden_17 : decode cX11_hidden 17 = .ok (.ifCond .ne 9, 3) := by decide +kernel
theorem dX11_hidden_20 : decode cX11_hidden 20 = .ok (.aload_n 0, 1) := by decide +kernel
theorem dX11_hidden_21 : decode cX11_hidden 21 = .ok (.iconst 1, 1) := by decide +kernel
theorem dX11_hidden_22 : decode cX11_hidden 22 = .ok (.invokevirtual 47, 3) := by decide +kernel
theorem dX11_hidden_25 : decode cX11_hidden 25 = .ok (.ireturn, 1) := by decide +kernel
theorem dX11_hidden_26 : decode cX11_hidden 26 = .ok (.iload_n 3, 1) := by decide +kernel
theorem dX11_hidden_27 : decode cX11_hidden 27 = .ok (.invokestatic 220, 3) := by decide +kernel
theorem dX11_hidden_30 : decode cX11_hidden 30 = .ok (.ifCond .ne 9, 3) := by decide +kernel
theorem dX11_hidden_33 : decode cX11_hidden 33 = .ok (.aload_n 0, 1) := by decide +kernel
theorem dX11_hidden_34 : decode cX11_hidden 34 = .ok (.iconst 2, 1) := by decide +kernel
theorem dX11_hidden_35 : decode cX11_hidden 35 = .ok (.invokevirtual 47, 3) := by decide +kernel
theorem dX11_hidden_38 : decode cX11_hidden 38 = .ok (.ireturn, 1) := by decide +kernel
theorem dX11_hidden_39 : decode cX11_hidden 39 = .ok (.iload_n 2, 1) := by decide +kernel
theorem dX11_hidden_40 : decode cX11_hidden 40 = .ok (.aload 4, 2) := by decide +kernel
theorem dX11_hidden_42 : decode cX11_hidden 42 = .ok (.getfield 153, 3) := by decide +kernel
theorem dX11_hidden_45 : decode cX11_hidden 45 = .ok (.if_icmp .lt 10, 3) := by decide +kernel
theorem dX11_hidden_48 : decode cX11_hidden 48 = .ok (.iload_n 2, 1) := by decide +kernel
theorem dX11_hidden_49 : decode cX11_hidden 49 = .ok (.sipush 999, 3) := by decide +kernel
theorem dX11_hidden_52 : decode cX11_hidden 52 = .ok (.if_icmp .le 9, 3) := by decide +kernel
theorem dX11_hidden_55 : decode cX11_hidden 55 = .ok (.aload_n 0, 1) := by decide +kernel
theorem dX11_hidden_56 : decode cX11_hidden 56 = .ok (.iconst 3, 1) := by decide +kernel
theorem dX11_hidden_57 : decode cX11_hidden 57 = .ok (.invokevirtual 47, 3) := by decide +kernel
theorem dX11_hidden_60 : decode cX11_hidden 60 = .ok (.ireturn, 1) := by decide +kernel
theorem dX11_hidden_61 : decode cX11_hidden 61 = .ok (.aload_n 0, 1) := by decide +kernel
theorem dX11_hidden_62 : decode cX11_hidden 62 = .ok (.getfield 24, 3) := by decide +kernel
theorem dX11_hidden_65 : decode cX11_hidden 65 = .ok (.invokevirtual 299, 3) := by decide +kernel
theorem dX11_hidden_68 : decode cX11_hidden 68 = .ok (.iconst 0, 1) := by decide +kernel
theorem dX11_hidden_69 : decode cX11_hidden 69 = .ok (.istore 5, 2) := by decide +kernel
theorem dX11_hidden_71 : decode cX11_hidden 71 = .ok (.iload 5, 2) := by decide +kernel
theorem dX11_hidden_73 : decode cX11_hidden 73 = .ok (.bipush 6, 2) := by decide +kernel
theorem dX11_hidden_75 : decode cX11_hidden 75 = .ok (.if_icmp .ge 43, 3) := by decide +kernel
theorem dX11_hidden_78 : decode cX11_hidden 78 = .ok (.aload 4, 2) := by decide +kernel
theorem dX11_hidden_80 : decode cX11_hidden 80 = .ok (.iload 5, 2) := by decide +kernel
theorem dX11_hidden_82 : decode cX11_hidden 82 = .ok (.iload_n 2, 1) := by decide +kernel
theorem dX11_hidden_83 : decode cX11_hidden 83 = .ok (.invokevirtual 302, 3) := by decide +kernel
theorem dX11_hidden_86 : decode cX11_hidden 86 = .ok (.astore 6, 2) := by decide +kernel
theorem dX11_hidden_88 : decode cX11_hidden 88 = .ok (.aload 6, 2) := by decide +kernel
theorem dX11_hidden_90 : decode cX11_hidden 90 = .ok (.ifnull 22, 3) := by decide +kernel
theorem dX11_hidden_93 : decode cX11_hidden 93 = .ok (.aload_n 0, 1) := by decide +kernel
theorem dX11_hidden_94 : decode cX11_hidden 94 = .ok (.getfield 24, 3) := by decide +kernel
theorem dX11_hidden_97 : decode cX11_hidden 97 = .ok (.aload 6, 2) := by decide +kernel
theorem dX11_hidden_99 : decode cX11_hidden 99 = .ok (.aload 4, 2) := by decide +kernel
theorem dX11_hidden_101 : decode cX11_hidden 101 = .ok (.iload_n 2, 1) := by decide +kernel
theorem dX11_hidden_102 : decode cX11_hidden 102 = .ok (.iconst 2, 1) := by decide +kernel
theorem dX11_hidden_103 : decode cX11_hidden 103 = .ok (.iload 5, 2) := by decide +kernel
theorem dX11_hidden_105 : decode cX11_hidden 105 = .ok (.invokevirtual 306, 3) := by decide +kernel
theorem dX11_hidden_108 : decode cX11_hidden 108 = .ok (.i2l, 1) := by decide +kernel
theorem dX11_hidden_109 : decode cX11_hidden 109 = .ok (.invokevirtual 309, 3) := by decide +kernel
theorem dX11_hidden_112 : decode cX11_hidden 112 = .ok (.iinc 5 1, 3) := by decide +kernel
theorem dX11_hidden_115 : decode cX11_hidden 115 = .ok (.goto (-44), 3) := by decide +kernel
theorem dX11_hidden_118 : decode cX11_hidden 118 = .ok (.aload_n 0, 1) := by decide +kernel
theorem dX11_hidden_119 : decode cX11_hidden 119 = .ok (.getfield 24, 3) := by decide +kernel
theorem dX11_hidden_122 : decode cX11_hidden 122 = .ok (.iload_n 3, 1) := by decide +kernel
theorem dX11_hidden_123 : decode cX11_hidden 123 = .ok (.i2l, 1) := by decide +kernel
theorem dX11_hidden_124 : decode cX11_hidden 124 = .ok (.invokevirtual 313, 3) := by decide +kernel
theorem dX11_hidden_127 : decode cX11_hidden 127 = .ok (.lstore 5, 2) := by decide +kernel
theorem dX11_hidden_129 : decode cX11_hidden 129 = .ok (.iconst 0, 1) := by decide +kernel
theorem dX11_hidden_130 : decode cX11_hidden 130 = .ok (.istore 7, 2) := by decide +kernel
theorem dX11_hidden_132 : decode cX11_hidden 132 = .ok (.iload 7, 2) := by decide +kernel
theorem dX11_hidden_134 : decode cX11_hidden 134 = .ok (.aload_n 0, 1) := by decide +kernel
theorem dX11_hidden_135 : decode cX11_hidden 135 = .ok (.getfield 24, 3) := by decide +kernel
theorem dX11_hidden_138 : decode cX11_hidden 138 = .ok (.getfield 316, 3) := by decide +kernel
theorem dX11_hidden_141 : decode cX11_hidden 141 = .ok (.if_icmp .ge 46, 3) := by decide +kernel
theorem dX11_hidden_144 : decode cX11_hidden 144 = .ok (.aload_n 0, 1) := by decide +kernel
theorem dX11_hidden_145 : decode cX11_hidden 145 = .ok (.getfield 24, 3) := by decide +kernel
theorem dX11_hidden_148 : decode cX11_hidden 148 = .ok (.getfield 317, 3) := by decide +kernel
theorem dX11_hidden_151 : decode cX11_hidden 151 = .ok (.iload 7, 2) := by decide +kernel
theorem dX11_hidden_153 : decode cX11_hidden 153 = .ok (.aaload, 1) := by decide +kernel
theorem dX11_hidden_154 : decode cX11_hidden 154 = .ok (.astore 8, 2) := by decide +kernel
theorem dX11_hidden_156 : decode cX11_hidden 156 = .ok (.aload 8, 2) := by decide +kernel
theorem dX11_hidden_158 : decode cX11_hidden 158 = .ok (.ifnull 23, 3) := by decide +kernel
theorem dX11_hidden_161 : decode cX11_hidden 161 = .ok (.aload 8, 2) := by decide +kernel
theorem dX11_hidden_163 : decode cX11_hidden 163 = .ok (.dup, 1) := by decide +kernel
theorem dX11_hidden_164 : decode cX11_hidden 164 = .ok (.getfield 320, 3) := by decide +kernel
theorem dX11_hidden_167 : decode cX11_hidden 167 = .ok (.aload_n 0, 1) := by decide +kernel
theorem dX11_hidden_168 : decode cX11_hidden 168 = .ok (.getfield 24, 3) := by decide +kernel
theorem dX11_hidden_171 : decode cX11_hidden 171 = .ok (.getfield 323, 3) := by decide +kernel
theorem dX11_hidden_174 : decode cX11_hidden 174 = .ok (.iload 7, 2) := by decide +kernel
theorem dX11_hidden_176 : decode cX11_hidden 176 = .ok (.laload, 1) := by decide +kernel
theorem dX11_hidden_177 : decode cX11_hidden 177 = .ok (.ladd, 1) := by decide +kernel
theorem dX11_hidden_178 : decode cX11_hidden 178 = .ok (.putfield 320, 3) := by decide +kernel
theorem dX11_hidden_181 : decode cX11_hidden 181 = .ok (.iinc 7 1, 3) := by decide +kernel
theorem dX11_hidden_184 : decode cX11_hidden 184 = .ok (.goto (-52), 3) := by decide +kernel
theorem dX11_hidden_187 : decode cX11_hidden 187 = .ok (.aload_n 0, 1) := by decide +kernel
theorem dX11_hidden_188 : decode cX11_hidden 188 = .ok (.lload 5, 2) := by decide +kernel
theorem dX11_hidden_190 : decode cX11_hidden 190 = .ok (.l2i, 1) := by decide +kernel
theorem dX11_hidden_191 : decode cX11_hidden 191 = .ok (.invokevirtual 57, 3) := by decide +kernel
theorem dX11_hidden_194 : decode cX11_hidden 194 = .ok (.ireturn, 1) := by decide +kernel
theorem dX11_bear_0 : decode cX11_bear 0 = .ok (.aload_n 0, 1) := by decide +kernel
theorem dX11_bear_1 : decode cX11_bear 1 = .ok (.iload_n 1, 1) := by decide +kernel
theorem dX11_bear_2 : decode cX11_bear 2 = .ok (.invokevirtual 65, 3) := by decide +kernel
theorem dX11_bear_5 : decode cX11_bear 5 = .ok (.astore 4, 2) := by decide +kernel
theorem dX11_bear_7 : decode cX11_bear 7 = .ok (.aload 4, 2) := by decide +kernel
theorem dX11_bear_9 : decode cX11_bear 9 = .ok (.ifnull 11, 3) := by decide +kernel
theorem dX11_bear_12 : decode cX11_bear 12 = .ok (.aload 4, 2) := by decide +kernel
theorem dX11_bear_14 : decode cX11_bear 14 = .ok (.getfield 161, 3) := by decide +kernel
theorem dX11_bear_17 : decode cX11_bear 17 = .ok (.ifCond .ne 9, 3) := by decide +kernel
theorem dX11_bear_20 : decode cX11_bear 20 = .ok (.aload_n 0, 1) := by decide +kernel
theorem dX11_bear_21 : decode cX11_bear 21 = .ok (.iconst 1, 1) := by decide +kernel
theorem dX11_bear_22 : decode cX11_bear 22 = .ok (.invokevirtual 47, 3) := by decide +kernel
theorem dX11_bear_25 : decode cX11_bear 25 = .ok (.ireturn, 1) := by decide +kernel
theorem dX11_bear_26 : decode cX11_bear 26 = .ok (.iload_n 3, 1) := by decide +kernel
theorem dX11_bear_27 : decode cX11_bear 27 = .ok (.invokestatic 220, 3) := by decide +kernel
theorem dX11_bear_30 : decode cX11_bear 30 = .ok (.ifCond .ne 9, 3) := by decide +kernel
theorem dX11_bear_33 : decode cX11_bear 33 = .ok (.aload_n 0, 1) := by decide +kernel
theorem dX11_bear_34 : decode cX11_bear 34 = .ok (.iconst 2, 1) := by decide +kernel
theorem dX11_bear_35 : decode cX11_bear 35 = .ok (.invokevirtual 47, 3) := by decide +kernel
theorem dX11_bear_38 : decode cX11_bear 38 = .ok (.ireturn, 1) := by decide +kernel
theorem dX11_bear_39 : decode cX11_bear 39 = .ok (.iload_n 2, 1) := by decide +kernel
theorem dX11_bear_40 : decode cX11_bear 40 = .ok (.aload 4, 2) := by decide +kernel
theorem dX11_bear_42 : decode cX11_bear 42 = .ok (.getfield 153, 3) := by decide +kernel
theorem dX11_bear_45 : decode cX11_bear 45 = .ok (.if_icmp .lt 10, 3) := by decide +kernel
theorem dX11_bear_48 : decode cX11_bear 48 = .ok (.iload_n 2, 1) := by decide +kernel
theorem dX11_bear_49 : decode cX11_bear 49 = .ok (.sipush 999, 3) := by decide +kernel
theorem dX11_bear_52 : decode cX11_bear 52 = .ok (.if_icmp .le 9, 3) := by decide +kernel
theorem dX11_bear_55 : decode cX11_bear 55 = .ok (.aload_n 0, 1) := by decide +kernel
theorem dX11_bear_56 : decode cX11_bear 56 = .ok (.iconst 3, 1) := by decide +kernel
theorem dX11_bear_57 : decode cX11_bear 57 = .ok (.invokevirtual 47, 3) := by decide +kernel
theorem dX11_bear_60 : decode cX11_bear 60 = .ok (.ireturn, 1) := by decide +kernel
theorem dX11_bear_61 : decode cX11_bear 61 = .ok (.aload_n 0, 1) := by decide +kernel
theorem dX11_bear_62 : decode cX11_bear 62 = .ok (.aload 4, 2) := by decide +kernel
theorem dX11_bear_64 : decode cX11_bear 64 = .ok (.iload_n 2, 1) := by decide +kernel
theorem dX11_bear_65 : decode cX11_bear 65 = .ok (.invokevirtual 326, 3) := by decide +kernel
theorem dX11_bear_68 : decode cX11_bear 68 = .ok (.aload_n 0, 1) := by decide +kernel
theorem dX11_bear_69 : decode cX11_bear 69 = .ok (.aload_n 0, 1) := by decide +kernel
theorem dX11_bear_70 : decode cX11_bear 70 = .ok (.getfield 24, 3) := by decide +kernel
theorem dX11_bear_73 : decode cX11_bear 73 = .ok (.iload_n 3, 1) := by decide +kernel
theorem dX11_bear_74 : decode cX11_bear 74 = .ok (.i2l, 1) := by decide +kernel
theorem dX11_bear_75 : decode cX11_bear 75 = .ok (.invokevirtual 329, 3) := by decide +kernel
theorem dX11_bear_78 : decode cX11_bear 78 = .ok (.l2i, 1) := by decide +kernel
theorem dX11_bear_79 : decode cX11_bear 79 = .ok (.putfield 332, 3) := by decide +kernel
theorem dX11_bear_82 : decode cX11_bear 82 = .ok (.aload_n 0, 1) := by decide +kernel
theorem dX11_bear_83 : decode cX11_bear 83 = .ok (.aload_n 0, 1) := by decide +kernel
theorem dX11_bear_84 : decode cX11_bear 84 = .ok (.invokevirtual 335, 3) := by decide +kernel
theorem dX11_bear_87 : decode cX11_bear 87 = .ok (.invokevirtual 57, 3) := by decide +kernel
theorem dX11_bear_90 : decode cX11_bear 90 = .ok (.ireturn, 1) := by decide +kernel
theorem dX11_borne_0 : decode cX11_borne 0 = .ok (.iload_n 1, 1) := by decide +kernel
theorem dX11_borne_1 : decode cX11_borne 1 = .ok (.iconst (-1), 1) := by decide +kernel
theorem dX11_borne_2 : decode cX11_borne 2 = .ok (.if_icmp .ne 8, 3) := by decide +kernel
theorem dX11_borne_5 : decode cX11_borne 5 = .ok (.aload_n 0, 1) := by decide +kernel
theorem dX11_borne_6 : decode cX11_borne 6 = .ok (.getfield 332, 3) := by decide +kernel
theorem dX11_borne_9 : decode cX11_borne 9 = .ok (.ireturn, 1) := by decide +kernel
theorem dX11_borne_10 : decode cX11_borne 10 = .ok (.iload_n 1, 1) := by decide +kernel
theorem dX11_borne_11 : decode cX11_borne 11 = .ok (.ifCond .lt 18, 3) := by decide +kernel
theorem dX11_borne_14 : decode cX11_borne 14 = .ok (.iload_n 1, 1) := by decide +kernel
theorem dX11_borne_15 : decode cX11_borne 15 = .ok (.bipush 24, 2) := by decide +kernel
theorem dX11_borne_17 : decode cX11_borne 17 = .ok (.if_icmp .ge 12, 3) := by decide +kernel
theorem dX11_borne_20 : decode cX11_borne 20 = .ok (.aload_n 0, 1) := by decide +kernel
theorem dX11_borne_21 : decode cX11_borne 21 = .ok (.getfield 35, 3) := by decide +kernel
theorem dX11_borne_24 : decode cX11_borne 24 = .ok (.iload_n 1, 1) := by decide +kernel
theorem dX11_borne_25 : decode cX11_borne 25 = .ok (.iaload, 1) := by decide +kernel
theorem dX11_borne_26 : decode cX11_borne 26 = .ok (.goto 4, 3) := by decide +kernel
theorem dX11_borne_29 : decode cX11_borne 29 = .ok (.iconst 0, 1) := by decide +kernel
theorem dX11_borne_30 : decode cX11_borne 30 = .ok (.ireturn, 1) := by decide +kernel
theorem dX11_account_0 : decode cX11_account 0 = .ok (.aload_n 0, 1) := by decide +kernel
theorem dX11_account_1 : decode cX11_account 1 = .ok (.iload_n 1, 1) := by decide +kernel
theorem dX11_account_2 : decode cX11_account 2 = .ok (.invokevirtual 65, 3) := by decide +kernel
theorem dX11_account_5 : decode cX11_account 5 = .ok (.astore 4, 2) := by decide +kernel
theorem dX11_account_7 : decode cX11_account 7 = .ok (.aload 4, 2) := by decide +kernel
theorem dX11_account_9 : decode cX11_account 9 = .ok (.ifnonnull 7, 3) := by decide +kernel
theorem dX11_account_12 : decode cX11_account 12 = .ok (.aconst_null, 1) := by decide +kernel
theorem dX11_account_13 : decode cX11_account 13 = .ok (.goto 9, 3) := by decide +kernel
theorem dX11_account_16 : decode cX11_account 16 = .ok (.aload 4, 2) := by decide +kernel
theorem dX11_account_18 : decode cX11_account 18 = .ok (.iload_n 2, 1) := by decide +kernel
theorem dX11_account_19 : decode cX11_account 19 = .ok (.invokevirtual 139, 3) := by decide +kernel
theorem dX11_account_22 : decode cX11_account 22 = .ok (.astore 5, 2) := by decide +kernel
theorem dX11_account_24 : decode cX11_account 24 = .ok (.aload 5, 2) := by decide +kernel
theorem dX11_account_26 : decode cX11_account 26 = .ok (.ifnonnull 7, 3) := by decide +kernel
theorem dX11_account_29 : decode cX11_account 29 = .ok (.lconst 0, 1) := by decide +kernel
theorem dX11_account_30 : decode cX11_account 30 = .ok (.goto 9, 3) := by decide +kernel
theorem dX11_account_33 : decode cX11_account 33 = .ok (.aload 5, 2) := by decide +kernel
theorem dX11_account_35 : decode cX11_account 35 = .ok (.iload_n 3, 1) := by decide +kernel
theorem dX11_account_36 : decode cX11_account 36 = .ok (.invokevirtual 338, 3) := by decide +kernel
theorem dX11_account_39 : decode cX11_account 39 = .ok (.lreturn, 1) := by decide +kernel
theorem dX11_tenure_0 : decode cX11_tenure 0 = .ok (.aload_n 0, 1) := by decide +kernel
theorem dX11_tenure_1 : decode cX11_tenure 1 = .ok (.iload_n 1, 1) := by decide +kernel
theorem dX11_tenure_2 : decode cX11_tenure 2 = .ok (.invokevirtual 65, 3) := by decide +kernel
theorem dX11_tenure_5 : decode cX11_tenure 5 = .ok (.astore 4, 2) := by decide +kernel
theorem dX11_tenure_7 : decode cX11_tenure 7 = .ok (.aload 4, 2) := by decide +kernel
theorem dX11_tenure_9 : decode cX11_tenure 9 = .ok (.ifnonnull 7, 3) := by decide +kernel
theorem dX11_tenure_12 : decode cX11_tenure 12 = .ok (.aconst_null, 1) := by decide +kernel
theorem dX11_tenure_13 : decode cX11_tenure 13 = .ok (.goto 9, 3) := by decide +kernel
theorem dX11_tenure_16 : decode cX11_tenure 16 = .ok (.aload 4, 2) := by decide +kernel
theorem dX11_tenure_18 : decode cX11_tenure 18 = .ok (.iload_n 2, 1) := by decide +kernel
theorem dX11_tenure_19 : decode cX11_tenure 19 = .ok (.invokevirtual 139, 3) := by decide +kernel
theorem dX11_tenure_22 : decode cX11_tenure 22 = .ok (.astore 5, 2) := by decide +kernel
theorem dX11_tenure_24 : decode cX11_tenure 24 = .ok (.aload 5, 2) := by decide +kernel
theorem dX11_tenure_26 : decode cX11_tenure 26 = .ok (.ifnonnull 7, 3) := by decide +kernel
theorem dX11_tenure_29 : decode cX11_tenure 29 = .ok (.iconst (-1), 1) := by decide +kernel
theorem dX11_tenure_30 : decode cX11_tenure 30 = .ok (.goto 9, 3) := by decide +kernel
theorem dX11_tenure_33 : decode cX11_tenure 33 = .ok (.aload 5, 2) := by decide +kernel
theorem dX11_tenure_35 : decode cX11_tenure 35 = .ok (.iload_n 3, 1) := by decide +kernel
theorem dX11_tenure_36 : decode cX11_tenure 36 = .ok (.invokevirtual 342, 3) := by decide +kernel
theorem dX11_tenure_39 : decode cX11_tenure 39 = .ok (.ireturn, 1) := by decide +kernel
theorem dX11_who_0 : decode cX11_who 0 = .ok (.aload_n 0, 1) := by decide +kernel
theorem dX11_who_1 : decode cX11_who 1 = .ok (.iload_n 1, 1) := by decide +kernel
theorem dX11_who_2 : decode cX11_who 2 = .ok (.invokevirtual 65, 3) := by decide +kernel
theorem dX11_who_5 : decode cX11_who 5 = .ok (.astore 4, 2) := by decide +kernel
theorem dX11_who_7 : decode cX11_who 7 = .ok (.aload 4, 2) := by decide +kernel
theorem dX11_who_9 : decode cX11_who 9 = .ok (.ifnull 17, 3) := by decide +kernel
theorem dX11_who_12 : decode cX11_who 12 = .ok (.iload_n 2, 1) := by decide +kernel
theorem dX11_who_13 : decode cX11_who 13 = .ok (.invokestatic 75, 3) := by decide +kernel
theorem dX11_who_16 : decode cX11_who 16 = .ok (.ifCond .eq 10, 3) := by decide +kernel
theorem dX11_who_19 : decode cX11_who 19 = .ok (.iload_n 3, 1) := by decide +kernel
theorem dX11_who_20 : decode cX11_who 20 = .ok (.invokestatic 345, 3) := by decide +kernel
theorem dX11_who_23 : decode cX11_who 23 = .ok (.ifCond .ne 5, 3) := by decide +kernel
theorem dX11_who_26 : decode cX11_who 26 = .ok (.iconst (-1), 1) := by decide +kernel
theorem dX11_who_27 : decode cX11_who 27 = .ok (.ireturn, 1) := by decide +kernel
theorem dX11_who_28 : decode cX11_who 28 = .ok (.aload 4, 2) := by decide +kernel
theorem dX11_who_30 : decode cX11_who 30 = .ok (.iload_n 2, 1) := by decide +kernel
theorem dX11_who_31 : decode cX11_who 31 = .ok (.iload_n 3, 1) := by decide +kernel
theorem dX11_who_32 : decode cX11_who 32 = .ok (.invokevirtual 302, 3) := by decide +kernel
theorem dX11_who_35 : decode cX11_who 35 = .ok (.astore 5, 2) := by decide +kernel
theorem dX11_who_37 : decode cX11_who 37 = .ok (.aload 5, 2) := by decide +kernel
theorem dX11_who_39 : decode cX11_who 39 = .ok (.ifnonnull 7, 3) := by decide +kernel
theorem dX11_who_42 : decode cX11_who 42 = .ok (.iconst (-1), 1) := by decide +kernel
theorem dX11_who_43 : decode cX11_who 43 = .ok (.goto 8, 3) := by decide +kernel
theorem dX11_who_46 : decode cX11_who 46 = .ok (.aload 5, 2) := by decide +kernel
theorem dX11_who_48 : decode cX11_who 48 = .ok (.getfield 135, 3) := by decide +kernel
theorem dX11_who_51 : decode cX11_who 51 = .ok (.ireturn, 1) := by decide +kernel
theorem dX11_stretch_0 : decode cX11_stretch 0 = .ok (.aload_n 0, 1) := by decide +kernel
theorem dX11_stretch_1 : decode cX11_stretch 1 = .ok (.iload_n 1, 1) := by decide +kernel
theorem dX11_stretch_2 : decode cX11_stretch 2 = .ok (.invokevirtual 65, 3) := by decide +kernel
theorem dX11_stretch_5 : decode cX11_stretch 5 = .ok (.astore 4, 2) := by decide +kernel
theorem dX11_stretch_7 : decode cX11_stretch 7 = .ok (.aload 4, 2) := by decide +kernel
theorem dX11_stretch_9 : decode cX11_stretch 9 = .ok (.ifnonnull 7, 3) := by decide +kernel
theorem dX11_stretch_12 : decode cX11_stretch 12 = .ok (.aconst_null, 1) := by decide +kernel
theorem dX11_stretch_13 : decode cX11_stretch 13 = .ok (.goto 12, 3) := by decide +kernel
theorem dX11_stretch_16 : decode cX11_stretch 16 = .ok (.aload 4, 2) := by decide +kernel
theorem dX11_stretch_18 : decode cX11_stretch 18 = .ok (.getfield 283, 3) := by decide +kernel
theorem dX11_stretch_21 : decode cX11_stretch 21 = .ok (.iload_n 2, 1) := by decide +kernel
theorem dX11_stretch_22 : decode cX11_stretch 22 = .ok (.invokevirtual 348, 3) := by decide +kernel
theorem dX11_stretch_25 : decode cX11_stretch 25 = .ok (.astore 5, 2) := by decide +kernel
theorem dX11_stretch_27 : decode cX11_stretch 27 = .ok (.aload 5, 2) := by decide +kernel
theorem dX11_stretch_29 : decode cX11_stretch 29 = .ok (.ifnonnull 7, 3) := by decide +kernel
theorem dX11_stretch_32 : decode cX11_stretch 32 = .ok (.lconst 0, 1) := by decide +kernel
theorem dX11_stretch_33 : decode cX11_stretch 33 = .ok (.goto 9, 3) := by decide +kernel
theorem dX11_stretch_36 : decode cX11_stretch 36 = .ok (.aload 5, 2) := by decide +kernel
theorem dX11_stretch_38 : decode cX11_stretch 38 = .ok (.iload_n 3, 1) := by decide +kernel
theorem dX11_stretch_39 : decode cX11_stretch 39 = .ok (.invokevirtual 352, 3) := by decide +kernel
theorem dX11_stretch_42 : decode cX11_stretch 42 = .ok (.lreturn, 1) := by decide +kernel
theorem dX11_due_0 : decode cX11_due 0 = .ok (.aload_n 0, 1) := by decide +kernel
theorem dX11_due_1 : decode cX11_due 1 = .ok (.iload_n 1, 1) := by decide +kernel
theorem dX11_due_2 : decode cX11_due 2 = .ok (.invokevirtual 65, 3) := by decide +kernel
theorem dX11_due_5 : decode cX11_due 5 = .ok (.astore 4, 2) := by decide +kernel
theorem dX11_due_7 : decode cX11_due 7 = .ok (.aload 4, 2) := by decide +kernel
theorem dX11_due_9 : decode cX11_due 9 = .ok (.ifnonnull 7, 3) := by decide +kernel
theorem dX11_due_12 : decode cX11_due 12 = .ok (.aconst_null, 1) := by decide +kernel
theorem dX11_due_13 : decode cX11_due 13 = .ok (.goto 12, 3) := by decide +kernel
theorem dX11_due_16 : decode cX11_due 16 = .ok (.aload 4, 2) := by decide +kernel
theorem dX11_due_18 : decode cX11_due 18 = .ok (.getfield 283, 3) := by decide +kernel
theorem dX11_due_21 : decode cX11_due 21 = .ok (.iload_n 2, 1) := by decide +kernel
theorem dX11_due_22 : decode cX11_due 22 = .ok (.invokevirtual 348, 3) := by decide +kernel
theorem dX11_due_25 : decode cX11_due 25 = .ok (.astore 5, 2) := by decide +kernel
theorem dX11_due_27 : decode cX11_due 27 = .ok (.aload 4, 2) := by decide +kernel
theorem dX11_due_29 : decode cX11_due 29 = .ok (.ifnonnull 7, 3) := by decide +kernel
theorem dX11_due_32 : decode cX11_due 32 = .ok (.aconst_null, 1) := by decide +kernel
theorem dX11_due_33 : decode cX11_due 33 = .ok (.goto 9, 3) := by decide +kernel
theorem dX11_due_36 : decode cX11_due 36 = .ok (.aload 4, 2) := by decide +kernel
theorem dX11_due_38 : decode cX11_due 38 = .ok (.iload_n 3, 1) := by decide +kernel
theorem dX11_due_39 : decode cX11_due 39 = .ok (.invokevirtual 139, 3) := by decide +kernel
theorem dX11_due_42 : decode cX11_due 42 = .ok (.astore 6, 2) := by decide +kernel
theorem dX11_due_44 : decode cX11_due 44 = .ok (.aload 5, 2) := by decide +kernel
theorem dX11_due_46 : decode cX11_due 46 = .ok (.ifnull 8, 3) := by decide +kernel
theorem dX11_due_49 : decode cX11_due 49 = .ok (.aload 6, 2) := by decide +kernel
theorem dX11_due_51 : decode cX11_due 51 = .ok (.ifnonnull 7, 3) := by decide +kernel
theorem dX11_due_54 : decode cX11_due 54 = .ok (.lconst 0, 1) := by decide +kernel
theorem dX11_due_55 : decode cX11_due 55 = .ok (.goto 10, 3) := by decide +kernel
theorem dX11_due_58 : decode cX11_due 58 = .ok (.aload 5, 2) := by decide +kernel
theorem dX11_due_60 : decode cX11_due 60 = .ok (.aload 6, 2) := by decide +kernel
theorem dX11_due_62 : decode cX11_due 62 = .ok (.invokevirtual 356, 3) := by decide +kernel
theorem dX11_due_65 : decode cX11_due 65 = .ok (.lreturn, 1) := by decide +kernel
theorem dX11_told_0 : decode cX11_told 0 = .ok (.aload_n 0, 1) := by decide +kernel
theorem dX11_told_1 : decode cX11_told 1 = .ok (.iload_n 1, 1) := by decide +kernel
theorem dX11_told_2 : decode cX11_told 2 = .ok (.invokevirtual 65, 3) := by decide +kernel
theorem dX11_told_5 : decode cX11_told 5 = .ok (.astore_n 3, 1) := by decide +kernel
theorem dX11_told_6 : decode cX11_told 6 = .ok (.aload_n 3, 1) := by decide +kernel
theorem dX11_told_7 : decode cX11_told 7 = .ok (.ifnonnull 7, 3) := by decide +kernel
theorem dX11_told_10 : decode cX11_told 10 = .ok (.iconst (-1), 1) := by decide +kernel
theorem dX11_told_11 : decode cX11_told 11 = .ok (.goto 8, 3) := by decide +kernel
theorem dX11_told_14 : decode cX11_told 14 = .ok (.aload_n 3, 1) := by decide +kernel
theorem dX11_told_15 : decode cX11_told 15 = .ok (.iload_n 2, 1) := by decide +kernel
theorem dX11_told_16 : decode cX11_told 16 = .ok (.invokevirtual 360, 3) := by decide +kernel
theorem dX11_told_19 : decode cX11_told 19 = .ok (.ireturn, 1) := by decide +kernel
theorem dX11_sum_0 : decode cX11_sum 0 = .ok (.aload_n 0, 1) := by decide +kernel
theorem dX11_sum_1 : decode cX11_sum 1 = .ok (.iload_n 1, 1) := by decide +kernel
theorem dX11_sum_2 : decode cX11_sum 2 = .ok (.invokevirtual 65, 3) := by decide +kernel
theorem dX11_sum_5 : decode cX11_sum 5 = .ok (.astore 4, 2) := by decide +kernel
theorem dX11_sum_7 : decode cX11_sum 7 = .ok (.aload 4, 2) := by decide +kernel
theorem dX11_sum_9 : decode cX11_sum 9 = .ok (.ifnonnull 5, 3) := by decide +kernel
theorem dX11_sum_12 : decode cX11_sum 12 = .ok (.lconst 0, 1) := by decide +kernel
theorem dX11_sum_13 : decode cX11_sum 13 = .ok (.lreturn, 1) := by decide +kernel
theorem dX11_sum_14 : decode cX11_sum 14 = .ok (.iload_n 2, 1) := by decide +kernel
theorem dX11_sum_15 : decode cX11_sum 15 = .ok (.tableswitch 70 0 3 #[29, 35, 42, 61], 29) := by decide +kernel
theorem dX11_sum_44 : decode cX11_sum 44 = .ok (.aload 4, 2) := by decide +kernel
theorem dX11_sum_46 : decode cX11_sum 46 = .ok (.getfield 208, 3) := by decide +kernel
theorem dX11_sum_49 : decode cX11_sum 49 = .ok (.lreturn, 1) := by decide +kernel
theorem dX11_sum_50 : decode cX11_sum 50 = .ok (.aload 4, 2) := by decide +kernel
theorem dX11_sum_52 : decode cX11_sum 52 = .ok (.iload_n 3, 1) := by decide +kernel
theorem dX11_sum_53 : decode cX11_sum 53 = .ok (.invokevirtual 361, 3) := by decide +kernel
theorem dX11_sum_56 : decode cX11_sum 56 = .ok (.lreturn, 1) := by decide +kernel
theorem dX11_sum_57 : decode cX11_sum 57 = .ok (.iload_n 3, 1) := by decide +kernel
theorem dX11_sum_58 : decode cX11_sum 58 = .ok (.invokestatic 345, 3) := by decide +kernel
theorem dX11_sum_61 : decode cX11_sum 61 = .ok (.ifCond .eq 13, 3) := by decide +kernel
theorem dX11_sum_64 : decode cX11_sum 64 = .ok (.aload 4, 2) := by decide +kernel
theorem dX11_sum_66 : decode cX11_sum 66 = .ok (.getfield 364, 3) := by decide +kernel
theorem dX11_sum_69 : decode cX11_sum 69 = .ok (.iload_n 3, 1) := by decide +kernel
theorem dX11_sum_70 : decode cX11_sum 70 = .ok (.laload, 1) := by decide +kernel
theorem dX11_sum_71 : decode cX11_sum 71 = .ok (.goto 4, 3) := by decide +kernel
theorem dX11_sum_74 : decode cX11_sum 74 = .ok (.lconst 0, 1) := by decide +kernel
theorem dX11_sum_75 : decode cX11_sum 75 = .ok (.lreturn, 1) := by decide +kernel
theorem dX11_sum_76 : decode cX11_sum 76 = .ok (.aload 4, 2) := by decide +kernel
theorem dX11_sum_78 : decode cX11_sum 78 = .ok (.getfield 283, 3) := by decide +kernel
theorem dX11_sum_81 : decode cX11_sum 81 = .ok (.getfield 367, 3) := by decide +kernel
theorem dX11_sum_84 : decode cX11_sum 84 = .ok (.lreturn, 1) := by decide +kernel
theorem dX11_sum_85 : decode cX11_sum 85 = .ok (.lconst 0, 1) := by decide +kernel
theorem dX11_sum_86 : decode cX11_sum 86 = .ok (.lreturn, 1) := by decide +kernel
theorem dX11_entry_0 : decode cX11_entry 0 = .ok (.aload_n 0, 1) := by decide +kernel
theorem dX11_entry_1 : decode cX11_entry 1 = .ok (.iload_n 1, 1) := by decide +kernel
theorem dX11_entry_2 : decode cX11_entry 2 = .ok (.invokevirtual 65, 3) := by decide +kernel
theorem dX11_entry_5 : decode cX11_entry 5 = .ok (.astore 4, 2) := by decide +kernel
theorem dX11_entry_7 : decode cX11_entry 7 = .ok (.aload 4, 2) := by decide +kernel
theorem dX11_entry_9 : decode cX11_entry 9 = .ok (.ifnonnull 7, 3) := by decide +kernel
theorem dX11_entry_12 : decode cX11_entry 12 = .ok (.aconst_null, 1) := by decide +kernel
theorem dX11_entry_13 : decode cX11_entry 13 = .ok (.goto 9, 3) := by decide +kernel
theorem dX11_entry_16 : decode cX11_entry 16 = .ok (.aload 4, 2) := by decide +kernel
theorem dX11_entry_18 : decode cX11_entry 18 = .ok (.iload_n 2, 1) := by decide +kernel
theorem dX11_entry_19 : decode cX11_entry 19 = .ok (.invokevirtual 196, 3) := by decide +kernel
theorem dX11_entry_22 : decode cX11_entry 22 = .ok (.astore 5, 2) := by decide +kernel
theorem dX11_entry_24 : decode cX11_entry 24 = .ok (.aload 5, 2) := by decide +kernel
theorem dX11_entry_26 : decode cX11_entry 26 = .ok (.ifnonnull 7, 3) := by decide +kernel
theorem dX11_entry_29 : decode cX11_entry 29 = .ok (.lconst 0, 1) := by decide +kernel
theorem dX11_entry_30 : decode cX11_entry 30 = .ok (.goto 9, 3) := by decide +kernel
theorem dX11_entry_33 : decode cX11_entry 33 = .ok (.aload 5, 2) := by decide +kernel
theorem dX11_entry_35 : decode cX11_entry 35 = .ok (.iload_n 3, 1) := by decide +kernel
theorem dX11_entry_36 : decode cX11_entry 36 = .ok (.invokevirtual 370, 3) := by decide +kernel
theorem dX11_entry_39 : decode cX11_entry 39 = .ok (.lreturn, 1) := by decide +kernel
theorem dX11_sheet_0 : decode cX11_sheet 0 = .ok (.iload_n 1, 1) := by decide +kernel
theorem dX11_sheet_1 : decode cX11_sheet 1 = .ok (.ifCond .lt 12, 3) := by decide +kernel
theorem dX11_sheet_4 : decode cX11_sheet 4 = .ok (.iload_n 1, 1) := by decide +kernel
theorem dX11_sheet_5 : decode cX11_sheet 5 = .ok (.aload_n 0, 1) := by decide +kernel
theorem dX11_sheet_6 : decode cX11_sheet 6 = .ok (.getfield 39, 3) := by decide +kernel
theorem dX11_sheet_9 : decode cX11_sheet 9 = .ok (.arraylength, 1) := by decide +kernel
theorem dX11_sheet_10 : decode cX11_sheet 10 = .ok (.if_icmp .lt 9, 3) := by decide +kernel
theorem dX11_sheet_13 : decode cX11_sheet 13 = .ok (.aload_n 0, 1) := by decide +kernel
theorem dX11_sheet_14 : decode cX11_sheet 14 = .ok (.iconst 2, 1) := by decide +kernel
theorem dX11_sheet_15 : decode cX11_sheet 15 = .ok (.invokevirtual 47, 3) := by decide +kernel
theorem dX11_sheet_18 : decode cX11_sheet 18 = .ok (.ireturn, 1) := by decide +kernel
theorem dX11_sheet_19 : decode cX11_sheet 19 = .ok (.aload_n 0, 1) := by decide +kernel
theorem dX11_sheet_20 : decode cX11_sheet 20 = .ok (.getfield 39, 3) := by decide +kernel
theorem dX11_sheet_23 : decode cX11_sheet 23 = .ok (.iload_n 1, 1) := by decide +kernel
theorem dX11_sheet_24 : decode cX11_sheet 24 = .ok (.lload_n 2, 1) := by decide +kernel
theorem dX11_sheet_25 : decode cX11_sheet 25 = .ok (.lastore, 1) := by decide +kernel
theorem dX11_sheet_26 : decode cX11_sheet 26 = .ok (.aload_n 0, 1) := by decide +kernel
theorem dX11_sheet_27 : decode cX11_sheet 27 = .ok (.iconst 1, 1) := by decide +kernel
theorem dX11_sheet_28 : decode cX11_sheet 28 = .ok (.invokevirtual 57, 3) := by decide +kernel
theorem dX11_sheet_31 : decode cX11_sheet 31 = .ok (.ireturn, 1) := by decide +kernel
theorem dX11_check_0 : decode cX11_check 0 = .ok (.aload_n 0, 1) := by decide +kernel
theorem dX11_check_1 : decode cX11_check 1 = .ok (.iload_n 1, 1) := by decide +kernel
theorem dX11_check_2 : decode cX11_check 2 = .ok (.invokevirtual 65, 3) := by decide +kernel
theorem dX11_check_5 : decode cX11_check 5 = .ok (.astore_n 2, 1) := by decide +kernel
theorem dX11_check_6 : decode cX11_check 6 = .ok (.aload_n 2, 1) := by decide +kernel
theorem dX11_check_7 : decode cX11_check 7 = .ok (.ifnull 10, 3) := by decide +kernel
theorem dX11_check_10 : decode cX11_check 10 = .ok (.aload_n 2, 1) := by decide +kernel
theorem dX11_check_11 : decode cX11_check 11 = .ok (.getfield 269, 3) := by decide +kernel
theorem dX11_check_14 : decode cX11_check 14 = .ok (.ifCond .ne 9, 3) := by decide +kernel
theorem dX11_check_17 : decode cX11_check 17 = .ok (.aload_n 0, 1) := by decide +kernel
theorem dX11_check_18 : decode cX11_check 18 = .ok (.iconst 1, 1) := by decide +kernel
theorem dX11_check_19 : decode cX11_check 19 = .ok (.invokevirtual 47, 3) := by decide +kernel
theorem dX11_check_22 : decode cX11_check 22 = .ok (.ireturn, 1) := by decide +kernel
theorem dX11_check_23 : decode cX11_check 23 = .ok (.iconst 0, 1) := by decide +kernel
theorem dX11_check_24 : decode cX11_check 24 = .ok (.istore_n 3, 1) := by decide +kernel
theorem dX11_check_25 : decode cX11_check 25 = .ok (.iload_n 3, 1) := by decide +kernel
theorem dX11_check_26 : decode cX11_check 26 = .ok (.bipush 24, 2) := by decide +kernel
theorem dX11_check_28 : decode cX11_check 28 = .ok (.if_icmp .ge 46, 3) := by decide +kernel
theorem dX11_check_31 : decode cX11_check 31 = .ok (.aload_n 2, 1) := by decide +kernel
theorem dX11_check_32 : decode cX11_check 32 = .ok (.iload_n 3, 1) := by decide +kernel
theorem dX11_check_33 : decode cX11_check 33 = .ok (.invokevirtual 139, 3) := by decide +kernel
theorem dX11_check_36 : decode cX11_check 36 = .ok (.astore 4, 2) := by decide +kernel
theorem dX11_check_38 : decode cX11_check 38 = .ok (.aload_n 0, 1) := by decide +kernel
theorem dX11_check_39 : decode cX11_check 39 = .ok (.getfield 39, 3) := by decide +kernel
theorem dX11_check_42 : decode cX11_check 42 = .ok (.iload_n 3, 1) := by decide +kernel
theorem dX11_check_43 : decode cX11_check 43 = .ok (.laload, 1) := by decide +kernel
theorem dX11_check_44 : decode cX11_check 44 = .ok (.aload 4, 2) := by decide +kernel
theorem dX11_check_46 : decode cX11_check 46 = .ok (.ifnonnull 7, 3) := by decide +kernel
theorem dX11_check_49 : decode cX11_check 49 = .ok (.lconst 0, 1) := by decide +kernel
theorem dX11_check_50 : decode cX11_check 50 = .ok (.goto 8, 3) := by decide +kernel
theorem dX11_check_53 : decode cX11_check 53 = .ok (.aload 4, 2) := by decide +kernel
theorem dX11_check_55 : decode cX11_check 55 = .ok (.getfield 373, 3) := by decide +kernel
theorem dX11_check_58 : decode cX11_check 58 = .ok (.lcmp, 1) := by decide +kernel
theorem dX11_check_59 : decode cX11_check 59 = .ok (.ifCond .eq 9, 3) := by decide +kernel
theorem dX11_check_62 : decode cX11_check 62 = .ok (.aload_n 0, 1) := by decide +kernel
theorem dX11_check_63 : decode cX11_check 63 = .ok (.iload_n 3, 1) := by decide +kernel
theorem dX11_check_64 : decode cX11_check 64 = .ok (.invokevirtual 57, 3) := by decide +kernel
theorem dX11_check_67 : decode cX11_check 67 = .ok (.ireturn, 1) := by decide +kernel
theorem dX11_check_68 : decode cX11_check 68 = .ok (.iinc 3 1, 3) := by decide +kernel
theorem dX11_check_71 : decode cX11_check 71 = .ok (.goto (-46), 3) := by decide +kernel
theorem dX11_check_74 : decode cX11_check 74 = .ok (.aload_n 0, 1) := by decide +kernel
theorem dX11_check_75 : decode cX11_check 75 = .ok (.aload_n 0, 1) := by decide +kernel
theorem dX11_check_76 : decode cX11_check 76 = .ok (.getfield 39, 3) := by decide +kernel
theorem dX11_check_79 : decode cX11_check 79 = .ok (.bipush 24, 2) := by decide +kernel
theorem dX11_check_81 : decode cX11_check 81 = .ok (.laload, 1) := by decide +kernel
theorem dX11_check_82 : decode cX11_check 82 = .ok (.aload_n 2, 1) := by decide +kernel
theorem dX11_check_83 : decode cX11_check 83 = .ok (.getfield 283, 3) := by decide +kernel
theorem dX11_check_86 : decode cX11_check 86 = .ok (.invokevirtual 376, 3) := by decide +kernel
theorem dX11_check_89 : decode cX11_check 89 = .ok (.lcmp, 1) := by decide +kernel
theorem dX11_check_90 : decode cX11_check 90 = .ok (.ifCond .ne 8, 3) := by decide +kernel
theorem dX11_check_93 : decode cX11_check 93 = .ok (.bipush (-2), 2) := by decide +kernel
theorem dX11_check_95 : decode cX11_check 95 = .ok (.goto 5, 3) := by decide +kernel
theorem dX11_check_98 : decode cX11_check 98 = .ok (.bipush 24, 2) := by decide +kernel
theorem dX11_check_100 : decode cX11_check 100 = .ok (.invokevirtual 57, 3) := by decide +kernel
theorem dX11_check_103 : decode cX11_check 103 = .ok (.ireturn, 1) := by decide +kernel
theorem dX11_status_0 : decode cX11_status 0 = .ok (.aload_n 0, 1) := by decide +kernel
theorem dX11_status_1 : decode cX11_status 1 = .ok (.getfield 380, 3) := by decide +kernel
theorem dX11_status_4 : decode cX11_status 4 = .ok (.ireturn, 1) := by decide +kernel
theorem dX11_where_0 : decode cX11_where 0 = .ok (.aload_n 0, 1) := by decide +kernel
theorem dX11_where_1 : decode cX11_where 1 = .ok (.getfield 43, 3) := by decide +kernel
theorem dX11_where_4 : decode cX11_where 4 = .ok (.ireturn, 1) := by decide +kernel
theorem dX11_firstHouseBehind_0 : decode cX11_firstHouseBehind 0 = .ok (.iconst 0, 1) := by decide +kernel
theorem dX11_firstHouseBehind_1 : decode cX11_firstHouseBehind 1 = .ok (.istore_n 3, 1) := by decide +kernel
theorem dX11_firstHouseBehind_2 : decode cX11_firstHouseBehind 2 = .ok (.iload_n 3, 1) := by decide +kernel
theorem dX11_firstHouseBehind_3 : decode cX11_firstHouseBehind 3 = .ok (.aload_n 0, 1) := by decide +kernel
theorem dX11_firstHouseBehind_4 : decode cX11_firstHouseBehind 4 = .ok (.getfield 51, 3) := by decide +kernel
theorem dX11_firstHouseBehind_7 : decode cX11_firstHouseBehind 7 = .ok (.if_icmp .ge 40, 3) := by decide +kernel
theorem dX11_firstHouseBehind_10 : decode cX11_firstHouseBehind 10 = .ok (.iload_n 3, 1) := by decide +kernel
theorem dX11_firstHouseBehind_11 : decode cX11_firstHouseBehind 11 = .ok (.bipush 8, 2) := by decide +kernel
theorem dX11_firstHouseBehind_13 : decode cX11_firstHouseBehind 13 = .ok (.if_icmp .ge 34, 3) := by decide +kernel
theorem dX11_firstHouseBehind_16 : decode cX11_firstHouseBehind 16 = .ok (.aload_n 0, 1) := by decide +kernel
theorem dX11_firstHouseBehind_17 : decode cX11_firstHouseBehind 17 = .ok (.getfield 11, 3) := by decide +kernel
theorem dX11_firstHouseBehind_20 : decode cX11_firstHouseBehind 20 = .ok (.iload_n 3, 1) := by decide +kernel
theorem dX11_firstHouseBehind_21 : decode cX11_firstHouseBehind 21 = .ok (.aaload, 1) := by decide +kernel
theorem dX11_firstHouseBehind_22 : decode cX11_firstHouseBehind 22 = .ok (.astore 4, 2) := by decide +kernel
theorem dX11_firstHouseBehind_24 : decode cX11_firstHouseBehind 24 = .ok (.aload 4, 2) := by decide +kernel
theorem dX11_firstHouseBehind_26 : decode cX11_firstHouseBehind 26 = .ok (.ifnull 15, 3) := by decide +kernel
theorem dX11_firstHouseBehind_29 : decode cX11_firstHouseBehind 29 = .ok (.aload 4, 2) := by decide +kernel
theorem dX11_firstHouseBehind_31 : decode cX11_firstHouseBehind 31 = .ok (.aload_n 1, 1) := by decide +kernel
theorem dX11_firstHouseBehind_32 : decode cX11_firstHouseBehind 32 = .ok (.iload_n 2, 1) := by decide +kernel
theorem dX11_firstHouseBehind_33 : decode cX11_firstHouseBehind 33 = .ok (.invokevirtual 394, 3) := by decide +kernel
theorem dX11_firstHouseBehind_36 : decode cX11_firstHouseBehind 36 = .ok (.ifCond .eq 5, 3) := by decide +kernel
theorem dX11_firstHouseBehind_39 : decode cX11_firstHouseBehind 39 = .ok (.iload_n 3, 1) := by decide +kernel
theorem dX11_firstHouseBehind_40 : decode cX11_firstHouseBehind 40 = .ok (.ireturn, 1) := by decide +kernel
theorem dX11_firstHouseBehind_41 : decode cX11_firstHouseBehind 41 = .ok (.iinc 3 1, 3) := by decide +kernel
theorem dX11_firstHouseBehind_44 : decode cX11_firstHouseBehind 44 = .ok (.goto (-42), 3) := by decide +kernel
theorem dX11_firstHouseBehind_47 : decode cX11_firstHouseBehind 47 = .ok (.iconst (-1), 1) := by decide +kernel
theorem dX11_firstHouseBehind_48 : decode cX11_firstHouseBehind 48 = .ok (.ireturn, 1) := by decide +kernel
theorem dX11_gatherBearers_0 : decode cX11_gatherBearers 0 = .ok (.aload_n 1, 1) := by decide +kernel
theorem dX11_gatherBearers_1 : decode cX11_gatherBearers 1 = .ok (.iload_n 2, 1) := by decide +kernel
theorem dX11_gatherBearers_2 : decode cX11_gatherBearers 2 = .ok (.invokevirtual 398, 3) := by decide +kernel
theorem dX11_gatherBearers_5 : decode cX11_gatherBearers 5 = .ok (.astore_n 3, 1) := by decide +kernel
theorem dX11_gatherBearers_6 : decode cX11_gatherBearers 6 = .ok (.aload_n 1, 1) := by decide +kernel
theorem dX11_gatherBearers_7 : decode cX11_gatherBearers 7 = .ok (.invokevirtual 149, 3) := by decide +kernel
theorem dX11_gatherBearers_10 : decode cX11_gatherBearers 10 = .ok (.astore 4, 2) := by decide +kernel
theorem dX11_gatherBearers_12 : decode cX11_gatherBearers 12 = .ok (.aload_n 0, 1) := by decide +kernel
theorem dX11_gatherBearers_13 : decode cX11_gatherBearers 13 = .ok (.getfield 24, 3) := by decide +kernel
theorem dX11_gatherBearers_16 : decode cX11_gatherBearers 16 = .ok (.invokevirtual 299, 3) := by decide +kernel
theorem dX11_gatherBearers_19 : decode cX11_gatherBearers 19 = .ok (.iconst 0, 1) := by decide +kernel
theorem dX11_gatherBearers_20 : decode cX11_gatherBearers 20 = .ok (.istore 5, 2) := by decide +kernel
theorem dX11_gatherBearers_22 : decode cX11_gatherBearers 22 = .ok (.iload 5, 2) := by decide +kernel
theorem dX11_gatherBearers_24 : decode cX11_gatherBearers 24 = .ok (.aload_n 1, 1) := by decide +kernel
theorem dX11_gatherBearers_25 : decode cX11_gatherBearers 25 = .ok (.getfield 121, 3) := by decide +kernel
theorem dX11_gatherBearers_28 : decode cX11_gatherBearers 28 = .ok (.if_icmp .ge 137, 3) := by decide +kernel
theorem dX11_gatherBearers_31 : decode cX11_gatherBearers 31 = .ok (.aload_n 1, 1) := by decide +kernel
theorem dX11_gatherBearers_32 : decode cX11_gatherBearers 32 = .ok (.iload 5, 2) := by decide +kernel
theorem dX11_gatherBearers_34 : decode cX11_gatherBearers 34 = .ok (.invokevirtual 139, 3) := by decide +kernel
theorem dX11_gatherBearers_37 : decode cX11_gatherBearers 37 = .ok (.astore 6, 2) := by decide +kernel
theorem dX11_gatherBearers_39 : decode cX11_gatherBearers 39 = .ok (.aload 6, 2) := by decide +kernel
theorem dX11_gatherBearers_41 : decode cX11_gatherBearers 41 = .ok (.ifnull 118, 3) := by decide +kernel
theorem dX11_gatherBearers_44 : decode cX11_gatherBearers 44 = .ok (.aload_n 3, 1) := by decide +kernel
theorem dX11_gatherBearers_45 : decode cX11_gatherBearers 45 = .ok (.ifnull 114, 3) := by decide +kernel
theorem dX11_gatherBearers_48 : decode cX11_gatherBearers 48 = .ok (.aload 4, 2) := by decide +kernel
theorem dX11_gatherBearers_50 : decode cX11_gatherBearers 50 = .ok (.ifnonnull 6, 3) := by decide +kernel
theorem dX11_gatherBearers_53 : decode cX11_gatherBearers 53 = .ok (.goto 106, 3) := by decide +kernel
theorem dX11_gatherBearers_56 : decode cX11_gatherBearers 56 = .ok (.aload 6, 2) := by decide +kernel
theorem dX11_gatherBearers_58 : decode cX11_gatherBearers 58 = .ok (.iload_n 2, 1) := by decide +kernel
theorem dX11_gatherBearers_59 : decode cX11_gatherBearers 59 = .ok (.invokevirtual 223, 3) := by decide +kernel
theorem dX11_gatherBearers_62 : decode cX11_gatherBearers 62 = .ok (.ifCond .eq 51, 3) := by decide +kernel
theorem dX11_gatherBearers_65 : decode cX11_gatherBearers 65 = .ok (.aload 6, 2) := by decide +kernel
theorem dX11_gatherBearers_67 : decode cX11_gatherBearers 67 = .ok (.invokevirtual 90, 3) := by decide +kernel
theorem dX11_gatherBearers_70 : decode cX11_gatherBearers 70 = .ok (.ifCond .eq 20, 3) := by decide +kernel
theorem dX11_gatherBearers_73 : decode cX11_gatherBearers 73 = .ok (.aload_n 1, 1) := by decide +kernel
theorem dX11_gatherBearers_74 : decode cX11_gatherBearers 74 = .ok (.aload 6, 2) := by decide +kernel
theorem dX11_gatherBearers_76 : decode cX11_gatherBearers 76 = .ok (.getfield 402, 3) := by decide +kernel
theorem dX11_gatherBearers_79 : decode cX11_gatherBearers 79 = .ok (.invokevirtual 405, 3) := by decide +kernel
theorem dX11_gatherBearers_82 : decode cX11_gatherBearers 82 = .ok (.aload 6, 2) := by decide +kernel
theorem dX11_gatherBearers_84 : decode cX11_gatherBearers 84 = .ok (.getfield 408, 3) := by decide +kernel
theorem dX11_gatherBearers_87 : decode cX11_gatherBearers 87 = .ok (.if_icmp .ge 26, 3) := by decide +kernel
theorem dX11_gatherBearers_90 : decode cX11_gatherBearers 90 = .ok (.aload_n 0, 1) := by decide +kernel
theorem dX11_gatherBearers_91 : decode cX11_gatherBearers 91 = .ok (.getfield 24, 3) := by decide +kernel
theorem dX11_gatherBearers_94 : decode cX11_gatherBearers 94 = .ok (.aload 6, 2) := by decide +kernel
theorem dX11_gatherBearers_96 : decode cX11_gatherBearers 96 = .ok (.aload_n 3, 1) := by decide +kernel
theorem dX11_gatherBearers_97 : decode cX11_gatherBearers 97 = .ok (.aload 6, 2) := by decide +kernel
theorem dX11_gatherBearers_99 : decode cX11_gatherBearers 99 = .ok (.getfield 411, 3) := by decide +kernel
theorem dX11_gatherBearers_102 : decode cX11_gatherBearers 102 = .ok (.iconst 3, 1) := by decide +kernel
theorem dX11_gatherBearers_103 : decode cX11_gatherBearers 103 = .ok (.invokevirtual 414, 3) := by decide +kernel
theorem dX11_gatherBearers_106 : decode cX11_gatherBearers 106 = .ok (.i2l, 1) := by decide +kernel
theorem dX11_gatherBearers_107 : decode cX11_gatherBearers 107 = .ok (.invokevirtual 309, 3) := by decide +kernel
theorem dX11_gatherBearers_110 : decode cX11_gatherBearers 110 = .ok (.goto 49, 3) := by decide +kernel
theorem dX11_gatherBearers_113 : decode cX11_gatherBearers 113 = .ok (.aload 6, 2) := by decide +kernel
theorem dX11_gatherBearers_115 : decode cX11_gatherBearers 115 = .ok (.getfield 128, 3) := by decide +kernel
theorem dX11_gatherBearers_118 : decode cX11_gatherBearers 118 = .ok (.iload_n 2, 1) := by decide +kernel
theorem dX11_gatherBearers_119 : decode cX11_gatherBearers 119 = .ok (.if_icmp .le 40, 3) := by decide +kernel
theorem dX11_gatherBearers_122 : decode cX11_gatherBearers 122 = .ok (.aload 6, 2) := by decide +kernel
theorem dX11_gatherBearers_124 : decode cX11_gatherBearers 124 = .ok (.getfield 417, 3) := by decide +kernel
theorem dX11_gatherBearers_127 : decode cX11_gatherBearers 127 = .ok (.ifCond .eq 32, 3) := by decide +kernel
theorem dX11_gatherBearers_130 : decode cX11_gatherBearers 130 = .ok (.aload 6, 2) := by decide +kernel
theorem dX11_gatherBearers_132 : decode cX11_gatherBearers 132 = .ok (.invokevirtual 90, 3) := by decide +kernel
theorem dX11_gatherBearers_135 : decode cX11_gatherBearers 135 = .ok (.ifCond .ne 24, 3) := by decide +kernel
theorem dX11_gatherBearers_138 : decode cX11_gatherBearers 138 = .ok (.aload_n 0, 1) := by decide +kernel
theorem dX11_gatherBearers_139 : decode cX11_gatherBearers 139 = .ok (.getfield 24, 3) := by decide +kernel
theorem dX11_gatherBearers_142 : decode cX11_gatherBearers 142 = .ok (.aload 6, 2) := by decide +kernel
theorem dX11_gatherBearers_144 : decode cX11_gatherBearers 144 = .ok (.aload 4, 2) := by decide +kernel
theorem dX11_gatherBearers_146 : decode cX11_gatherBearers 146 = .ok (.aload 6, 2) := by decide +kernel
theorem dX11_gatherBearers_148 : decode cX11_gatherBearers 148 = .ok (.getfield 411, 3) := by decide +kernel
theorem dX11_gatherBearers_151 : decode cX11_gatherBearers 151 = .ok (.iconst 3, 1) := by decide +kernel
theorem dX11_gatherBearers_152 : decode cX11_gatherBearers 152 = .ok (.invokevirtual 414, 3) := by decide +kernel
theorem dX11_gatherBearers_155 : decode cX11_gatherBearers 155 = .ok (.i2l, 1) := by decide +kernel
theorem dX11_gatherBearers_156 : decode cX11_gatherBearers 156 = .ok (.invokevirtual 309, 3) := by decide +kernel
theorem dX11_gatherBearers_159 : decode cX11_gatherBearers 159 = .ok (.iinc 5 1, 3) := by decide +kernel
theorem dX11_gatherBearers_162 : decode cX11_gatherBearers 162 = .ok (.goto (-140), 3) := by decide +kernel
theorem dX11_gatherBearers_165 : decode cX11_gatherBearers 165 = .ok (.return_, 1) := by decide +kernel
theorem dX11_keepDebtParts_0 : decode cX11_keepDebtParts 0 = .ok (.aload_n 0, 1) := by decide +kernel
theorem dX11_keepDebtParts_1 : decode cX11_keepDebtParts 1 = .ok (.getfield 35, 3) := by decide +kernel
theorem dX11_keepDebtParts_4 : decode cX11_keepDebtParts 4 = .ok (.iconst 0, 1) := by decide +kernel
theorem dX11_keepDebtParts_5 : decode cX11_keepDebtParts 5 = .ok (.invokestatic 421, 3) := by decide +kernel
theorem dX11_keepDebtParts_8 : decode cX11_keepDebtParts 8 = .ok (.iconst 0, 1) := by decide +kernel
theorem dX11_keepDebtParts_9 : decode cX11_keepDebtParts 9 = .ok (.istore_n 1, 1) := by decide +kernel
theorem dX11_keepDebtParts_10 : decode cX11_keepDebtParts 10 = .ok (.iconst 0, 1) := by decide +kernel
theorem dX11_keepDebtParts_11 : decode cX11_keepDebtParts 11 = .ok (.istore_n 2, 1) := by decide +kernel
theorem dX11_keepDebtParts_12 : decode cX11_keepDebtParts 12 = .ok (.iload_n 2, 1) := by decide +kernel
theorem dX11_keepDebtParts_13 : decode cX11_keepDebtParts 13 = .ok (.aload_n 0, 1) := by decide +kernel
theorem dX11_keepDebtParts_14 : decode cX11_keepDebtParts 14 = .ok (.getfield 24, 3) := by decide +kernel
theorem dX11_keepDebtParts_17 : decode cX11_keepDebtParts 17 = .ok (.getfield 316, 3) := by decide +kernel
theorem dX11_keepDebtParts_20 : decode cX11_keepDebtParts 20 = .ok (.if_icmp .ge 68, 3) := by decide +kernel
theorem dX11_keepDebtParts_23 : decode cX11_keepDebtParts 23 = .ok (.aload_n 0, 1) := by decide +kernel
theorem dX11_keepDebtParts_24 : decode cX11_keepDebtParts 24 = .ok (.getfield 24, 3) := by decide +kernel
theorem dX11_keepDebtParts_27 : decode cX11_keepDebtParts 27 = .ok (.getfield 317, 3) := by decide +kernel
theorem dX11_keepDebtParts_30 : decode cX11_keepDebtParts 30 = .ok (.iload_n 2, 1) := by decide +kernel
theorem dX11_keepDebtParts_31 : decode cX11_keepDebtParts 31 = .ok (.aaload, 1) := by decide +kernel
theorem dX11_keepDebtParts_32 : decode cX11_keepDebtParts 32 = .ok (.astore_n 3, 1) := by decide +kernel
theorem dX11_keepDebtParts_33 : decode cX11_keepDebtParts 33 = .ok (.aload_n 3, 1) := by decide +kernel
theorem dX11_keepDebtParts_34 : decode cX11_keepDebtParts 34 = .ok (.ifnull 48, 3) := by decide +kernel
theorem dX11_keepDebtParts_37 : decode cX11_keepDebtParts 37 = .ok (.aload_n 3, 1) := by decide +kernel
theorem dX11_keepDebtParts_38 : decode cX11_keepDebtParts 38 = .ok (.getfield 135, 3) := by decide +kernel
theorem dX11_keepDebtParts_41 : decode cX11_keepDebtParts 41 = .ok (.bipush 24, 2) := by decide +kernel
theorem dX11_keepDebtParts_43 : decode cX11_keepDebtParts 43 = .ok (.if_icmp .ge 39, 3) := by decide +kernel
theorem dX11_keepDebtParts_46 : decode cX11_keepDebtParts 46 = .ok (.aload_n 0, 1) := by decide +kernel
theorem dX11_keepDebtParts_47 : decode cX11_keepDebtParts 47 = .ok (.getfield 24, 3) := by decide +kernel
theorem dX11_keepDebtParts_50 : decode cX11_keepDebtParts 50 = .ok (.getfield 323, 3) := by decide +kernel
theorem dX11_keepDebtParts_53 : decode cX11_keepDebtParts 53 = .ok (.iload_n 2, 1) := by decide +kernel
theorem dX11_keepDebtParts_54 : decode cX11_keepDebtParts 54 = .ok (.laload, 1) := by decide +kernel
theorem dX11_keepDebtParts_55 : decode cX11_keepDebtParts 55 = .ok (.lconst 0, 1) := by decide +kernel
theorem dX11_keepDebtParts_56 : decode cX11_keepDebtParts 56 = .ok (.lcmp, 1) := by decide +kernel
theorem dX11_keepDebtParts_57 : decode cX11_keepDebtParts 57 = .ok (.ifCond .le 25, 3) := by decide +kernel
theorem dX11_keepDebtParts_60 : decode cX11_keepDebtParts 60 = .ok (.aload_n 0, 1) := by decide +kernel
theorem dX11_keepDebtParts_61 : decode cX11_keepDebtParts 61 = .ok (.getfield 35, 3) := by decide +kernel
theorem dX11_keepDebtParts_64 : decode cX11_keepDebtParts 64 = .ok (.aload_n 3, 1) := by decide +kernel
theorem dX11_keepDebtParts_65 : decode cX11_keepDebtParts 65 = .ok (.getfield 135, 3) := by decide +kernel
theorem dX11_keepDebtParts_68 : decode cX11_keepDebtParts 68 = .ok (.aload_n 0, 1) := by decide +kernel
theorem dX11_keepDebtParts_69 : decode cX11_keepDebtParts 69 = .ok (.getfield 24, 3) := by decide +kernel
theorem dX11_keepDebtParts_72 : decode cX11_keepDebtParts 72 = .ok (.getfield 323, 3) := by decide +kernel
theorem dX11_keepDebtParts_75 : decode cX11_keepDebtParts 75 = .ok (.iload_n 2, 1) := by decide +kernel
theorem dX11_keepDebtParts_76 : decode cX11_keepDebtParts 76 = .ok (.laload, 1) := by decide +kernel
theorem dX11_keepDebtParts_77 : decode cX11_keepDebtParts 77 = .ok (.l2i, 1) := by decide +kernel
theorem dX11_keepDebtParts_78 : decode cX11_keepDebtParts 78 = .ok (.iastore, 1) := by decide +kernel
theorem dX11_keepDebtParts_79 : decode cX11_keepDebtParts 79 = .ok (.iinc 1 1, 3) := by decide +kernel
theorem dX11_keepDebtParts_82 : decode cX11_keepDebtParts 82 = .ok (.iinc 2 1, 3) := by decide +kernel
theorem dX11_keepDebtParts_85 : decode cX11_keepDebtParts 85 = .ok (.goto (-73), 3) := by decide +kernel
theorem dX11_keepDebtParts_88 : decode cX11_keepDebtParts 88 = .ok (.iload_n 1, 1) := by decide +kernel
theorem dX11_keepDebtParts_89 : decode cX11_keepDebtParts 89 = .ok (.ireturn, 1) := by decide +kernel
theorem wd_420 : Cond.fieldLink RX11 248 RX10 "count" "I" ∈ lw_good := mem_t1 174 (by decide +kernel) rfl
theorem wd_421 : Cond.methodLink RX11 249 yX10_takeLatest ∈ lw_good := mem_t3 191 (by decide +kernel) rfl
theorem wd_422 : Cond.instanceMethod yX10_takeLatest ∈ lw_good := mem_t3 192 (by decide +kernel) rfl
theorem wd_423 : Cond.selects RX10 yX10_takeLatest yX10_takeLatest ∈ lw_good := mem_t3 193 (by decide +kernel) rfl
theorem wd_424 : Cond.code yX10_takeLatest cX10_takeLatest 1 (some .int) ∈ lw_good := mem_t3 194 rfl rfl
theorem wd_425 : Cond.methodLink RX11 256 yX2_dropEntry ∈ lw_good := mem_t3 200 (by decide +kernel) rfl
theorem wd_426 : Cond.instanceMethod yX2_dropEntry ∈ lw_good := mem_t3 201 (by decide +kernel) rfl
theorem wd_427 : Cond.selects RX2 yX2_dropEntry yX2_dropEntry ∈ lw_good := mem_t3 202 (by decide +kernel) rfl
theorem wd_428 : Cond.code yX2_dropEntry cX2_dropEntry 3 none ∈ lw_good := mem_t3 203 rfl rfl
theorem wd_429 : Cond.methodLink RX11 253 yX1_dropLatest ∈ lw_good := mem_t3 196 (by decide +kernel) rfl
theorem wd_430 : Cond.instanceMethod yX1_dropLatest ∈ lw_good := mem_t3 197 (by decide +kernel) rfl
theorem wd_431 : Cond.selects RX1 yX1_dropLatest yX1_dropLatest ∈ lw_good := mem_t3 198 (by decide +kernel) rfl
theorem wd_432 : Cond.code yX1_dropLatest cX1_dropLatest 1 none ∈ lw_good := mem_t3 199 rfl rfl
theorem wd_433 : Cond.methodLink RX11 260 yX2_firstOfNextYear ∈ lw_good := mem_t3 213 (by decide +kernel) rfl
theorem wd_434 : Cond.instanceMethod yX2_firstOfNextYear ∈ lw_good := mem_t3 214 (by decide +kernel) rfl
theorem wd_435 : Cond.selects RX2 yX2_firstOfNextYear yX2_firstOfNextYear ∈ lw_good := mem_t3 215 (by decide +kernel) rfl
theorem wd_436 : Cond.code yX2_firstOfNextYear cX2_firstOfNextYear 1 (some .int) ∈ lw_good := mem_t3 216 rfl rfl
theorem wd_437 : Cond.fieldLink RX11 263 RX2 "yearsTold" "I" ∈ lw_good := mem_t1 218 (by decide +kernel) rfl
theorem wd_438 : Cond.fieldLink RX11 266 RX2 "ends" "[I" ∈ lw_good := mem_t1 216 (by decide +kernel) rfl
theorem wd_439 : Cond.fieldLink RX11 153 RX2 "first" "I" ∈ lw_good := mem_t1 211 (by decide +kernel) rfl
theorem wd_440 : Cond.fieldLink RX11 293 RX2 "to" "I" ∈ lw_good := mem_t1 214 (by decide +kernel) rfl
theorem wd_441 : Cond.fieldLink RX11 296 RX2 "mends" "LPartnersBook$DaySums;" ∈ lw_good := mem_t2 8 (by decide +kernel) rfl
theorem wd_442 : Cond.fieldLink RX11 161 RX2 "ruleCount" "I" ∈ lw_good := mem_t1 233 (by decide +kernel) rfl
theorem wd_443 : Cond.fieldLink RX11 24 RX11 "shares" "LPartnersBook$Shares;" ∈ lw_good := mem_t1 84 (by decide +kernel) rfl
theorem wd_444 : Cond.methodLink RX11 299 yX7_start ∈ lw_good := mem_t4 212 (by decide +kernel) rfl
theorem wd_445 : Cond.methodLink RX11 313 yX7_cut ∈ lw_good := mem_t4 221 (by decide +kernel) rfl
theorem wd_446 : Cond.fieldLink RX11 316 RX7 "count" "I" ∈ lw_good := mem_t1 48 (by decide +kernel) rfl
theorem wd_447 : Cond.fieldLink RX11 317 RX7 "tenures" "[LPartnersBook$Tenure;" ∈ lw_good := mem_t1 39 (by decide +kernel) rfl
theorem wd_448 : Cond.fieldLink RX11 320 RX9 "hiddenSum" "J" ∈ lw_good := mem_t2 214 (by decide +kernel) rfl
theorem wd_449 : Cond.fieldLink RX11 323 RX7 "parts" "[J" ∈ lw_good := mem_t1 43 (by decide +kernel) rfl
theorem wd_450 : Cond.methodLink RX11 302 yX2_tenureIn ∈ lw_good := mem_t4 213 (by decide +kernel) rfl
theorem wd_451 : Cond.methodLink RX11 306 yX2_termOn ∈ lw_good := mem_t4 214 (by decide +kernel) rfl
theorem wd_452 : Cond.instanceMethod yX2_termOn ∈ lw_good := mem_t4 215 (by decide +kernel) rfl
theorem wd_453 : Cond.selects RX2 yX2_termOn yX2_termOn ∈ lw_good := mem_t4 216 (by decide +kernel) rfl
theorem wd_454 : Cond.code yX2_termOn cX2_termOn 5 (some .int) ∈ lw_good := mem_t4 217 rfl rfl
theorem wd_455 : Cond.methodLink RX11 309 yX7_add ∈ lw_good := mem_t4 220 (by decide +kernel) rfl
theorem wd_456 : Cond.methodLink RX11 394 yX2_lagsFor ∈ lw_good := mem_t3 231 (by decide +kernel) rfl
theorem wd_457 : Cond.instanceMethod yX2_lagsFor ∈ lw_good := mem_t3 232 (by decide +kernel) rfl
theorem wd_458 : Cond.selects RX2 yX2_lagsFor yX2_lagsFor ∈ lw_good := mem_t3 233 (by decide +kernel) rfl
theorem wd_459 : Cond.code yX2_lagsFor cX2_lagsFor 6 (some .boolean) ∈ lw_good := mem_t3 234 rfl rfl
theorem wd_460 : Cond.methodLink RX11 398 yX2_ruleOn ∈ lw_good := mem_t4 230 (by decide +kernel) rfl
theorem wd_461 : Cond.methodLink RX11 149 yX2_latestRule ∈ lw_good := mem_t3 42 (by decide +kernel) rfl
theorem wd_462 : Cond.instanceMethod yX2_latestRule ∈ lw_good := mem_t3 43 (by decide +kernel) rfl
theorem wd_463 : Cond.selects RX2 yX2_latestRule yX2_latestRule ∈ lw_good := mem_t3 44 (by decide +kernel) rfl
theorem wd_464 : Cond.code yX2_latestRule cX2_latestRule 1 (some (.object "PartnersBook$Rule")) ∈ lw_good := mem_t3 45 rfl rfl
theorem wd_465 : Cond.fieldLink RX11 121 RX2 "tenureCount" "I" ∈ lw_good := mem_t1 228 (by decide +kernel) rfl
theorem wd_466 : Cond.fieldLink RX11 402 RX9 "end" "I" ∈ lw_good := mem_t2 204 (by decide +kernel) rfl
theorem wd_467 : Cond.methodLink RX11 405 yX2_yearsClosedSince ∈ lw_good := mem_t4 231 (by decide +kernel) rfl
theorem wd_468 : Cond.instanceMethod yX2_yearsClosedSince ∈ lw_good := mem_t4 232 (by decide +kernel) rfl
theorem wd_469 : Cond.selects RX2 yX2_yearsClosedSince yX2_yearsClosedSince ∈ lw_good := mem_t4 233 (by decide +kernel) rfl
theorem wd_470 : Cond.code yX2_yearsClosedSince cX2_yearsClosedSince 4 (some .int) ∈ lw_good := mem_t4 234 rfl rfl
theorem wd_471 : Cond.fieldLink RX11 408 RX9 "years" "I" ∈ lw_good := mem_t2 207 (by decide +kernel) rfl
theorem wd_472 : Cond.fieldLink RX11 417 RX9 "word" "Z" ∈ lw_good := mem_t2 200 (by decide +kernel) rfl
theorem wd_473 : Cond.fieldLink RX11 411 RX9 "seat" "I" ∈ lw_good := mem_t2 195 (by decide +kernel) rfl
theorem wd_474 : Cond.methodLink RX11 414 yX6_termOf ∈ lw_good := mem_t4 235 (by decide +kernel) rfl
theorem wd_475 : Cond.fieldLink RX11 35 RX11 "debtParts" "[I" ∈ lw_good := mem_t1 86 (by decide +kernel) rfl
theorem wd_476 : Cond.methodLink RX11 421 yJ7_fill_53178 ∈ lw_good := mem_t5 1 (by decide +kernel) rfl
theorem wd_477 : Cond.methodLink RX11 326 yX11_gatherBearers ∈ lw_good := mem_t4 226 (by decide +kernel) rfl
theorem wd_478 : Cond.instanceMethod yX11_gatherBearers ∈ lw_good := mem_t4 228 (by decide +kernel) rfl
theorem wd_479 : Cond.selects RX11 yX11_gatherBearers yX11_gatherBearers ∈ lw_good := mem_p 24 (by decide +kernel) rfl
theorem wd_480 : Cond.code yX11_gatherBearers cX11_gatherBearers 7 none ∈ lw_good := mem_t4 229 rfl rfl
theorem wd_481 : Cond.methodLink RX11 329 yX7_shareLoss ∈ lw_good := mem_t4 236 (by decide +kernel) rfl
theorem wd_482 : Cond.fieldLink RX11 332 RX11 "debtOfNobody" "I" ∈ lw_good := mem_t1 87 (by decide +kernel) rfl
theorem wd_483 : Cond.methodLink RX11 335 yX11_keepDebtParts ∈ lw_good := mem_t4 237 (by decide +kernel) rfl
theorem wd_484 : Cond.instanceMethod yX11_keepDebtParts ∈ lw_good := mem_t4 239 (by decide +kernel) rfl
theorem wd_485 : Cond.selects RX11 yX11_keepDebtParts yX11_keepDebtParts ∈ lw_good := mem_p 25 (by decide +kernel) rfl
theorem wd_486 : Cond.code yX11_keepDebtParts cX11_keepDebtParts 4 (some .int) ∈ lw_good := mem_t5 0 rfl rfl
theorem wd_487 : Cond.methodLink RX11 338 yX9_accountOf ∈ lw_good := mem_t5 10 (by decide +kernel) rfl
theorem wd_488 : Cond.instanceMethod yX9_accountOf ∈ lw_good := mem_t5 11 (by decide +kernel) rfl
theorem wd_489 : Cond.selects RX9 yX9_accountOf yX9_accountOf ∈ lw_good := mem_t5 12 (by decide +kernel) rfl
theorem wd_490 : Cond.code yX9_accountOf cX9_accountOf 2 (some .long) ∈ lw_good := mem_t5 13 rfl rfl
theorem wd_491 : Cond.methodLink RX11 342 yX9_factOf ∈ lw_good := mem_t5 18 (by decide +kernel) rfl
theorem wd_492 : Cond.instanceMethod yX9_factOf ∈ lw_good := mem_t5 19 (by decide +kernel) rfl
theorem wd_493 : Cond.selects RX9 yX9_factOf yX9_factOf ∈ lw_good := mem_t5 20 (by decide +kernel) rfl
theorem wd_494 : Cond.code yX9_factOf cX9_factOf 2 (some .int) ∈ lw_good := mem_t5 21 rfl rfl
theorem wd_495 : Cond.methodLink RX11 345 yX11_isDay ∈ lw_good := mem_t5 30 (by decide +kernel) rfl
theorem wd_496 : Cond.fieldLink RX11 283 RX2 "closing" "LPartnersBook$Closing;" ∈ lw_good := mem_t2 13 (by decide +kernel) rfl
theorem wd_497 : Cond.methodLink RX11 348 yX0_at ∈ lw_good := mem_t5 35 (by decide +kernel) rfl
theorem wd_498 : Cond.methodLink RX11 352 yX8_factOf ∈ lw_good := mem_t5 36 (by decide +kernel) rfl
theorem wd_499 : Cond.instanceMethod yX8_factOf ∈ lw_good := mem_t5 37 (by decide +kernel) rfl
theorem wd_500 : Cond.selects RX8 yX8_factOf yX8_factOf ∈ lw_good := mem_t5 38 (by decide +kernel) rfl
theorem wd_501 : Cond.code yX8_factOf cX8_factOf 2 (some .long) ∈ lw_good := mem_t5 39 rfl rfl
theorem wd_502 : Cond.methodLink RX11 356 yX8_dueOf ∈ lw_good := mem_t5 52 (by decide +kernel) rfl
theorem wd_503 : Cond.methodLink RX11 360 yX2_factOf ∈ lw_good := mem_t5 57 (by decide +kernel) rfl
theorem wd_504 : Cond.instanceMethod yX2_factOf ∈ lw_good := mem_t5 58 (by decide +kernel) rfl
theorem wd_505 : Cond.selects RX2 yX2_factOf yX2_factOf ∈ lw_good := mem_t5 59 (by decide +kernel) rfl
theorem wd_506 : Cond.code yX2_factOf cX2_factOf 2 (some .int) ∈ lw_good := mem_t5 60 rfl rfl
theorem wd_507 : Cond.methodLink RX11 361 yX2_entriesOn ∈ lw_good := mem_t5 66 (by decide +kernel) rfl
theorem wd_508 : Cond.instanceMethod yX2_entriesOn ∈ lw_good := mem_t4 56 (by decide +kernel) rfl
theorem wd_509 : Cond.selects RX2 yX2_entriesOn yX2_entriesOn ∈ lw_good := mem_t4 57 (by decide +kernel) rfl
theorem wd_510 : Cond.code yX2_entriesOn cX2_entriesOn 3 (some .long) ∈ lw_good := mem_t4 58 rfl rfl
theorem wd_511 : Cond.fieldLink RX11 364 RX2 "income" "[J" ∈ lw_good := mem_t1 238 (by decide +kernel) rfl
theorem wd_512 : Cond.fieldLink RX11 367 RX0 "nobodyOfAll" "J" ∈ lw_good := mem_t1 196 (by decide +kernel) rfl
theorem wd_513 : Cond.methodLink RX11 370 yX3_entryAt ∈ lw_good := mem_t5 71 (by decide +kernel) rfl
theorem wd_514 : Cond.instanceMethod yX3_entryAt ∈ lw_good := mem_t5 72 (by decide +kernel) rfl
theorem wd_515 : Cond.selects RX3 yX3_entryAt yX3_entryAt ∈ lw_good := mem_t5 73 (by decide +kernel) rfl
theorem wd_516 : Cond.code yX3_entryAt cX3_entryAt 2 (some .long) ∈ lw_good := mem_t5 74 rfl rfl
theorem wd_517 : Cond.fieldLink RX11 39 RX11 "sheetRow" "[J" ∈ lw_good := mem_t1 88 (by decide +kernel) rfl
theorem wd_518 : Cond.fieldLink RX11 269 RX2 "yearsClosed" "I" ∈ lw_good := mem_t1 221 (by decide +kernel) rfl
theorem wd_519 : Cond.methodLink RX11 376 yX0_nobodyOfLatest ∈ lw_good := mem_t5 83 (by decide +kernel) rfl
theorem wd_520 : Cond.instanceMethod yX0_nobodyOfLatest ∈ lw_good := mem_t4 182 (by decide +kernel) rfl
theorem wd_521 : Cond.selects RX0 yX0_nobodyOfLatest yX0_nobodyOfLatest ∈ lw_good := mem_t4 183 (by decide +kernel) rfl
theorem wd_522 : Cond.code yX0_nobodyOfLatest cX0_nobodyOfLatest 5 (some .long) ∈ lw_good := mem_t4 184 rfl rfl
theorem wd_523 : Cond.fieldLink RX11 373 RX9 "dues" "J" ∈ lw_good := mem_t2 223 (by decide +kernel) rfl
set_option maxHeartbeats 4000000 in
set_option maxRecDepth 100000 in
theorem s_X11_gatherBearers (l : Launch) (D : va_G) (cy : Nat → ClassId) (K : Kp) (L : List Nat) (M : Hp) (sz : Nat) (xa : Nat) (x0 : Nat) (x1 : Nat) (x2 : Nat) (x3 : Nat) (x4 : Nat) (x5 : Nat) (x6 : Nat) (x7 : Int32) (x8 : Nat) (x9 : Int32) (x10 : Int32) (k1 : Nat) (k2 : Int32) (hW : WOK cy K L M) (i0 : isk K L x0 17 8) (b1 : x1 ≤ 8) (i2 : isk K L x2 19 40) (b3 : x3 ≤ 40) (i4 : isk K L x4 7 0) (i5 : isk K L x5 5 0) (i6 : isk K L x6 60 24) (i8 : isk K L x8 73 25) (ik1 : isk K L k1 2 0) : Met l yX11_gatherBearers (wsM yX11_gatherBearers cX11_gatherBearers 7 none) ({ frames := 2, cells := 0, slots := 0, locals := 43 }) (va_Pc [.ref xa, .ref k1, .int k2] (PG D cy [(xa, (b11_1 x0 (nI x1) x2 (nI x3) x4 x5 x6 x7 x8 x9 x10))] L M sz)) (va_Qv (fun (M9 : Hp) => WOK cy K L M9 ∧ fr K L [7, 64, 68] M M9 ∧ (True)) (fun M9 t => PQ D [(xa, (b11_1 x0 (nI x1) x2 (nI x3) x4 x5 x6 x7 x8 x9 x10))] L M9 (va_A ([(xa, (b11_1 x0 (nI x1) x2 (nI x3) x4 x5 x6 x7 x8 x9 x10))] ++ va_pl L M) sz) t) (va_A ([(xa, (b11_1 x0 (nI x1) x2 (nI x3) x4 x5 x6 x7 x8 x9 x10))] ++ va_pl L M) sz)) 0 0 (va_A ([(xa, (b11_1 x0 (nI x1) x2 (nI x3) x4 x5 x6 x7 x8 x9 x10))] ++ va_pl L M) sz) := by
  refine Met.ofW (cc := cX11_gatherBearers) (maxL := 7) (ret := none) (by decide) rfl ?_
  intro p e s m args below meth c s₁ B hml hv
  obtain ⟨rfl, hsz, hP, hK, hD0, hN⟩ := hv
  have hx := B.exec
  have hb := B.bytes
  have hr := B.returns
  have hts := atoms_spec (ws := (wsM yX11_gatherBearers cX11_gatherBearers 7 none)) B.pre
  have hg : ∀ w ∈ lw_good, w.before _ s = true := fun w h => hts w (List.mem_cons_of_mem _ h)
  have hown : s.vm.findClass RX11 = some m.cls := findClass_of_methodNamed B.named
  have hlocks := B.notSynchronized
  subst hsz
  have hD := hD0.self (sz := s.heap.size)
  generalize hAe : va_A ([(xa, (b11_1 x0 (nI x1) x2 (nI x3) x4 x5 x6 x7 x8 x9 x10))] ++ va_pl L M) s.heap.size = A at hD ⊢
  have hA : ∀ q : Nat, s.heap.size ≤ q → A q := fun q h => by rw [← hAe]; exact Or.inr h
  have hS : va_S A s.heap s.heap [] := va_S.rf
  have hl := lv_entry ([.ref xa, .ref k1, .int k2]) (n := 7) (Nat.le_of_ble_eq_true rfl)
  rw [lg_entry_eq]
  generalize (lg_sl ([.ref xa, .ref k1, .int k2]) ++ List.replicate (7 - (lg_sl ([.ref xa, .ref k1, .int k2])).length) Slot.unset).toArray = ls at hl ⊢
  refine W.nameQ (fun Q hQ => ?_)
  refine W.nameR (fun R hR => ?_)
  have hRf : 2 ≤ R.frames := by rw [hR]; exact Nat.le_of_ble_eq_true rfl
  have hRl : 43 ≤ R.locals := by rw [hR]; exact Nat.le_of_ble_eq_true rfl
  have hRc : 0 ≤ R.cells := by rw [hR]; exact Nat.le_of_ble_eq_true rfl
  have hRs : 0 ≤ R.slots := by rw [hR]; exact Nat.le_of_ble_eq_true rfl
  have hF : fr K L [7, 64, 68] M M := fr.rf
  have hl : lv_has ls 7 [(0, .ref xa), (1, .ref k1), (2, .int k2)] := hl
  refine lv_aload_n hx hb dX11_gatherBearers_0 rfl (lv_at hl 1 rfl) ?_
  refine lv_iload_n hx hb dX11_gatherBearers_1 rfl (lv_at hl 2 rfl) ?_
  obtain ⟨v1_0, v1_1, v1_2, v1_3, v1_4, v1_5, v1_6, v1_7, v1_8, v1_9, v1_10, v1_11, v1_12, v1_13, v1_14, v1_15, v1_16, v1_17, v1_18, v1_19, hM1, h1_3, h1_4, h1_5, h1_6, h1_7, h1_8, h1_9, h1_10, h1_11, h1_12, h1_13, h1_16, h1_17, h1_18, h1_19⟩ := hW.open_2 ik1
  have hPc : va_P D vwCl ([] ++ va_pl L M) s.heap := hP.part (cx := []) [] rfl
  have hDc : va_D A ([] ++ va_pl L M) := hD.part (cx := []) [] (by decide) rfl
  have hFc : ∀ q, va_A ([] ++ va_pl L M) s.heap.size q → A q := pg_free hDc hS hA
  refine va_callq (va_runV (As := [.int k2]) (rest := []) ⟨hx, hb, hml, hown, hg⟩ (s_X2_ruleOn l D cy K L M s.heap.size k1 k2  hW ik1) (cwV 1 hg (gV wd_460 wd_132 wd_133 wd_57 wd_134) rfl rfl rfl (by decide +kernel) ⟨(Nat.le_trans (Nat.le_of_ble_eq_true rfl) hRf), (Nat.le_trans (Nat.le_of_ble_eq_true rfl) hRl)⟩) ⟨PG.blind, pg_recv hK hP ik1.1 hM1 rfl, fun U hU hW => ⟨rfl, PG.at hPc hK hDc hN hU hW⟩⟩ rfl rfl hl.1 rfl (lv_room (Nat.le_of_ble_eq_true rfl)) dX11_gatherBearers_2 ⟨(Nat.le_trans (Nat.le_of_ble_eq_true rfl) hRc), (Nat.le_trans (Nat.le_of_ble_eq_true rfl) hRs)⟩) hS (fun q _ h => hFc q h) hFc (fun r_3 M_4 t H_2 locs ht hvm hw hB hz1 hk1 hS => ?_)
  have hp_5 := hw
  obtain ⟨hP1, hD1⟩ := hB
  rw [ht] at hP1
  obtain ⟨hP, hD⟩ := va_joinP (X := [(xa, (b11_1 x0 (nI x1) x2 (nI x3) x4 x5 x6 x7 x8 x9 x10))]) (cx := []) (wr := [(xa, (b11_1 x0 (nI x1) x2 (nI x3) x4 x5 x6 x7 x8 x9 x10))]) (rx := []) (pl := va_pl L M) (pl1 := va_pl L M) hP hD [] [0] rfl rfl (by decide) (by decide) hk1 hFc hP1 hD1
  have hP : va_P D vwCl ([(xa, (b11_1 x0 (nI x1) x2 (nI x3) x4 x5 x6 x7 x8 x9 x10))] ++ va_pl L M) H_2 := hP
  have hD : va_D A ([(xa, (b11_1 x0 (nI x1) x2 (nI x3) x4 x5 x6 x7 x8 x9 x10))] ++ va_pl L M) := hD
  rcases r_3 with _ | b_6
  · have hz := rfl (a := 0)
    refine lv_astore_nN (lv' := [(3, .null), (0, .ref xa), (1, .ref k1), (2, .int k2)]) hx hb dX11_gatherBearers_5 rfl hl (by decide) rfl (fun ls hl => ?_)
    refine lv_aload_n hx hb dX11_gatherBearers_6 rfl (lv_at hl 2 rfl) ?_
    have hPc : va_P D vwCl ([] ++ va_pl L M) H_2 := hP.part (cx := []) [] rfl
    have hDc : va_D A ([] ++ va_pl L M) := hD.part (cx := []) [] (by decide) rfl
    have hFc : ∀ q, va_A ([] ++ va_pl L M) H_2.size q → A q := pg_free hDc hS hA
    refine va_callq (va_runV (As := []) (rest := []) ⟨hx, hb, hml, hown, hg⟩ (s_X2_latestRule l D cy K L M H_2.size k1  hW ik1) (cwV 0 hg (gV wd_461 wd_462 wd_463 wd_57 wd_464) rfl rfl rfl (by decide +kernel) ⟨(Nat.le_trans (Nat.le_of_ble_eq_true rfl) hRf), (Nat.le_trans (Nat.le_of_ble_eq_true rfl) hRl)⟩) ⟨PG.blind, pg_recv hK hP ik1.1 hM1 rfl, fun U hU hW => ⟨rfl, PG.at hPc hK hDc hN hU hW⟩⟩ rfl rfl hl.1 rfl (lv_room (Nat.le_of_ble_eq_true rfl)) dX11_gatherBearers_7 ⟨(Nat.le_trans (Nat.le_of_ble_eq_true rfl) hRc), (Nat.le_trans (Nat.le_of_ble_eq_true rfl) hRs)⟩) hS (fun q _ h => hFc q h) hFc (fun r_8 M_9 t H_7 locs ht hvm hw hB hz1 hk1 hS => ?_)
    have hp_10 := hw
    obtain ⟨hP1, hD1⟩ := hB
    rw [ht] at hP1
    obtain ⟨hP, hD⟩ := va_joinP (X := [(xa, (b11_1 x0 (nI x1) x2 (nI x3) x4 x5 x6 x7 x8 x9 x10))]) (cx := []) (wr := [(xa, (b11_1 x0 (nI x1) x2 (nI x3) x4 x5 x6 x7 x8 x9 x10))]) (rx := []) (pl := va_pl L M) (pl1 := va_pl L M) hP hD [] [0] rfl rfl (by decide) (by decide) hk1 hFc hP1 hD1
    have hP : va_P D vwCl ([(xa, (b11_1 x0 (nI x1) x2 (nI x3) x4 x5 x6 x7 x8 x9 x10))] ++ va_pl L M) H_7 := hP
    have hD : va_D A ([(xa, (b11_1 x0 (nI x1) x2 (nI x3) x4 x5 x6 x7 x8 x9 x10))] ++ va_pl L M) := hD
    rcases r_8 with _ | b_11
    · have hz := rfl (a := 0)
      refine lv_astoreN (lv' := [(4, .null), (3, .null), (0, .ref xa), (1, .ref k1), (2, .int k2)]) hx hb dX11_gatherBearers_10 hl (by decide) rfl (fun ls hl => ?_)
      refine lv_aload_n hx hb dX11_gatherBearers_12 rfl (lv_at hl 2 rfl) ?_
      refine va_get (D := D) (ci := 11) (v := .ref x4) (C := RX11) (T := TX11) (N := 11) hx hb hg inG11 hown hK hP 0 rfl rfl 4 (by decide) (hg _ wd_443) (fun _ h9 => h9) rfl dX11_gatherBearers_13 ?_
      obtain ⟨v12_0, v12_1, v12_2, v12_3, v12_4, v12_5, hM12, h12_0, h12_1, h12_2, h12_3, h12_4, h12_5⟩ := hW.open_7 i4
      have hPc : va_P D vwCl ([] ++ va_pl L M) H_7 := hP.part (cx := []) [] rfl
      have hDc : va_D A ([] ++ va_pl L M) := hD.part (cx := []) [] (by decide) rfl
      have hFc : ∀ q, va_A ([] ++ va_pl L M) H_7.size q → A q := pg_free hDc hS hA
      refine va_callv (va_runV (As := []) (rest := []) ⟨hx, hb, hml, hown, hg⟩ (s_X7_start l D cy K L M H_7.size x4  hW i4) (cwV 0 hg (gV wd_444 wd_209 wd_210 wd_148 wd_211) rfl rfl rfl (by decide +kernel) ⟨(Nat.le_trans (Nat.le_of_ble_eq_true rfl) hRf), (Nat.le_trans (Nat.le_of_ble_eq_true rfl) hRl)⟩) ⟨PG.blind, pg_recv hK hP i4.1 hM12 rfl, fun U hU hW => ⟨rfl, PG.at hPc hK hDc hN hU hW⟩⟩ rfl rfl hl.1 rfl (lv_room (Nat.le_of_ble_eq_true rfl)) dX11_gatherBearers_16 ⟨(Nat.le_trans (Nat.le_of_ble_eq_true rfl) hRc), (Nat.le_trans (Nat.le_of_ble_eq_true rfl) hRs)⟩) hS (fun q _ h => hFc q h) hFc (fun M_15 t H_13 locs ht hvm hw hB hz1 hk1 hS => ?_)
      obtain ⟨hW, hF2, hp_16⟩ := hw
      obtain ⟨hP1, hD1⟩ := hB
      rw [ht] at hP1
      obtain ⟨hP, hD⟩ := va_joinP (X := [(xa, (b11_1 x0 (nI x1) x2 (nI x3) x4 x5 x6 x7 x8 x9 x10))]) (cx := []) (wr := [(xa, (b11_1 x0 (nI x1) x2 (nI x3) x4 x5 x6 x7 x8 x9 x10))]) (rx := []) (pl := va_pl L M) (pl1 := va_pl L M_15) hP hD [] [0] rfl rfl (by decide) (by decide) hk1 hFc hP1 hD1
      have hP : va_P D vwCl ([(xa, (b11_1 x0 (nI x1) x2 (nI x3) x4 x5 x6 x7 x8 x9 x10))] ++ va_pl L M_15) H_13 := hP
      have hD : va_D A ([(xa, (b11_1 x0 (nI x1) x2 (nI x3) x4 x5 x6 x7 x8 x9 x10))] ++ va_pl L M_15) := hD
      have hM_17 : M_15 k1 = (b2_2 v1_0 v1_1 v1_2 v1_3 (nI v1_4) (nI v1_5) v1_6 v1_7 v1_8 (nI v1_9) v1_10 (nI v1_11) v1_12 v1_13 v1_14 v1_15 v1_16 v1_17 v1_18 v1_19) := (hF2.at ik1 (by decide)).trans hM1
      have hF : fr K L [7, 64, 68] M M_15 := hF.tr hF2 (by decide)
      refine lv_iconst (v := 0) hx hb dX11_gatherBearers_19 (by decide) ?_
      refine lv_istore (lv' := [(5, .int 0), (4, .null), (3, .null), (0, .ref xa), (1, .ref k1), (2, .int k2)]) hx hb dX11_gatherBearers_20 hl (by decide) rfl (fun ls hl => ?_)
      have key_18 : ∀ (fu_20 : Nat) (v5w21 : Nat) (M_23 : Hp) (H_24 : Heap) (locs : List Loc) (ls : Array Slot), 24 - v5w21 < fu_20 → v5w21 ≤ 24 → WOK cy K L M_23 → fr K L [7, 64, 68] M M_23 → va_P D vwCl ([(xa, (b11_1 x0 (nI x1) x2 (nI x3) x4 x5 x6 x7 x8 x9 x10))] ++ va_pl L M_23) H_24 → va_D A ([(xa, (b11_1 x0 (nI x1) x2 (nI x3) x4 x5 x6 x7 x8 x9 x10))] ++ va_pl L M_23) → va_S A s.heap H_24 locs → lv_has ls 7 [(5, .int (nI v5w21)), (4, .null), (3, .null), (0, .ref xa), (1, .ref k1), (2, .int k2)] → W p l e R s m ([.ref xa, .ref k1, .int k2] : List Value).toArray below meth c H_24 locs 0 0 Q (F0 m 22 ls []) := by
        intro fu_20
        induction fu_20 with
        | zero => intro v5w21 M_23 H_24 locs ls h; exact absurd h (Nat.not_lt_zero _)
        | succ fu_20 ih_19 =>
          intro v5w21 M_23 H_24 locs ls hfu hx_22 hW hF hP hD hS hl
          refine lv_iload hx hb dX11_gatherBearers_22 (lv_at hl 0 rfl) ?_
          refine lv_aload_n hx hb dX11_gatherBearers_24 rfl (lv_at hl 4 rfl) ?_
          obtain ⟨v25_0, v25_1, v25_2, v25_3, v25_4, v25_5, v25_6, v25_7, v25_8, v25_9, v25_10, v25_11, v25_12, v25_13, v25_14, v25_15, v25_16, v25_17, v25_18, v25_19, hM25, h25_3, h25_4, h25_5, h25_6, h25_7, h25_8, h25_9, h25_10, h25_11, h25_12, h25_13, h25_16, h25_17, h25_18, h25_19⟩ := hW.open_2 ik1
          refine pg_get (D := D) (ci := 2) (v := .int (nI v25_9)) (C := RX2) (T := TX2) (N := 20) hx hb hg inG2 hown hK hP ik1.1 hM25 rfl 9 (by decide) (hg _ wd_465) (fun _ h9 => h9) rfl dX11_gatherBearers_25 ?_
          refine lv_icmp_ge (tgt := 165) hx hb dX11_gatherBearers_28 (by decide) (fun c_26 => ?_) (fun c_26 => ?_)
          · have hz := rfl (a := 0)
            have n_27 : v25_9 ≤ v5w21 := (iLE (a := v25_9) (b := v5w21) (by omega) (by omega)).mp c_26
            rw [hQ]
            exact W.vret hx hb hr (fun t ht hW9 => ⟨⟨M_23, rfl, ⟨hW, hF, trivial⟩, ⟨by rw [ht]; exact hP, hD⟩⟩, hS.F ht⟩) hS.2.2 dX11_gatherBearers_165
          · have hz := rfl (a := 0)
            have n_28 : ¬ (v25_9 ≤ v5w21) := fun q => c_26 ((iLE (a := v25_9) (b := v5w21) (by omega) (by omega)).mpr q)
            refine lv_aload_n hx hb dX11_gatherBearers_31 rfl (lv_at hl 4 rfl) ?_
            refine lv_iload hx hb dX11_gatherBearers_32 (lv_at hl 0 rfl) ?_
            have hPc : va_P D vwCl ([] ++ va_pl L M_23) H_24 := hP.part (cx := []) [] rfl
            have hDc : va_D A ([] ++ va_pl L M_23) := hD.part (cx := []) [] (by decide) rfl
            have hFc : ∀ q, va_A ([] ++ va_pl L M_23) H_24.size q → A q := pg_free hDc hS hA
            refine va_callq (va_runV (As := [.int (nI v5w21)]) (rest := []) ⟨hx, hb, hml, hown, hg⟩ (s_X2_tenureAt l D cy K L M_23 H_24.size k1 (nI v5w21)  hW ik1) (cwV 1 hg (gV wd_405 wd_55 wd_56 wd_57 wd_58) rfl rfl rfl (by decide +kernel) ⟨(Nat.le_trans (Nat.le_of_ble_eq_true rfl) hRf), (Nat.le_trans (Nat.le_of_ble_eq_true rfl) hRl)⟩) ⟨PG.blind, pg_recv hK hP ik1.1 hM25 rfl, fun U hU hW => ⟨rfl, PG.at hPc hK hDc hN hU hW⟩⟩ rfl rfl hl.1 rfl (lv_room (Nat.le_of_ble_eq_true rfl)) dX11_gatherBearers_34 ⟨(Nat.le_trans (Nat.le_of_ble_eq_true rfl) hRc), (Nat.le_trans (Nat.le_of_ble_eq_true rfl) hRs)⟩) hS (fun q _ h => hFc q h) hFc (fun r_30 M_31 t H_29 locs ht hvm hw hB hz1 hk1 hS => ?_)
            have hp_32 := hw
            obtain ⟨hP1, hD1⟩ := hB
            rw [ht] at hP1
            obtain ⟨hP, hD⟩ := va_joinP (X := [(xa, (b11_1 x0 (nI x1) x2 (nI x3) x4 x5 x6 x7 x8 x9 x10))]) (cx := []) (wr := [(xa, (b11_1 x0 (nI x1) x2 (nI x3) x4 x5 x6 x7 x8 x9 x10))]) (rx := []) (pl := va_pl L M_23) (pl1 := va_pl L M_23) hP hD [] [0] rfl rfl (by decide) (by decide) hk1 hFc hP1 hD1
            have hP : va_P D vwCl ([(xa, (b11_1 x0 (nI x1) x2 (nI x3) x4 x5 x6 x7 x8 x9 x10))] ++ va_pl L M_23) H_29 := hP
            have hD : va_D A ([(xa, (b11_1 x0 (nI x1) x2 (nI x3) x4 x5 x6 x7 x8 x9 x10))] ++ va_pl L M_23) := hD
            rcases r_30 with _ | b_33
            · have hz := rfl (a := 0)
              refine lv_astoreN (lv' := [(6, .null), (5, .int (nI v5w21)), (4, .null), (3, .null), (0, .ref xa), (1, .ref k1), (2, .int k2)]) hx hb dX11_gatherBearers_37 hl (by decide) rfl (fun ls hl => ?_)
              refine lv_aloadN hx hb dX11_gatherBearers_39 (lv_at hl 0 rfl) ?_
              refine lv_ifnullN (tgt := 159) hx hb dX11_gatherBearers_41 (by decide) ?_
              refine lv_iinc (v := (nI (v5w21 + 1))) (lv' := [(5, .int (nI (v5w21 + 1))), (6, .null), (4, .null), (3, .null), (0, .ref xa), (1, .ref k1), (2, .int k2)]) hx hb dX11_gatherBearers_159 hl (k := 1) rfl (nI_1 v5w21) (by decide) rfl (fun ls hl => ?_)
              refine lv_goto (tgt := 22) hx hb dX11_gatherBearers_162 (by decide) ?_
              exact ih_19 (v5w21 + 1) M_23 H_29 _ _ (by omega) (by omega) hW hF hP hD hS (lv_sub hl [0, 2, 3, 4, 5, 6] rfl)
            · have hb_34 := hp_32 b_33 rfl
              refine lv_astore (lv' := [(6, .ref b_33), (5, .int (nI v5w21)), (4, .null), (3, .null), (0, .ref xa), (1, .ref k1), (2, .int k2)]) hx hb dX11_gatherBearers_37 hl (by decide) rfl (fun ls hl => ?_)
              refine lv_aload hx hb dX11_gatherBearers_39 (lv_at hl 0 rfl) ?_
              refine lv_ifnull hx hb dX11_gatherBearers_41 ?_
              refine lv_aload_nN hx hb dX11_gatherBearers_44 rfl (lv_at hl 3 rfl) ?_
              refine lv_ifnullN (tgt := 159) hx hb dX11_gatherBearers_45 (by decide) ?_
              refine lv_iinc (v := (nI (v5w21 + 1))) (lv' := [(5, .int (nI (v5w21 + 1))), (6, .ref b_33), (4, .null), (3, .null), (0, .ref xa), (1, .ref k1), (2, .int k2)]) hx hb dX11_gatherBearers_159 hl (k := 1) rfl (nI_1 v5w21) (by decide) rfl (fun ls hl => ?_)
              refine lv_goto (tgt := 22) hx hb dX11_gatherBearers_162 (by decide) ?_
              exact ih_19 (v5w21 + 1) M_23 H_29 _ _ (by omega) (by omega) hW hF hP hD hS (lv_sub hl [0, 2, 3, 4, 5, 6] rfl)
      exact key_18 (24 - 0 + 1) 0 M_15 H_13 _ _ (by omega) (by omega) hW hF hP hD hS (lv_sub hl [0, 1, 2, 3, 4, 5] rfl)
    · have hb_35 := hp_10 b_11 rfl
      refine lv_astore (lv' := [(4, .ref b_11), (3, .null), (0, .ref xa), (1, .ref k1), (2, .int k2)]) hx hb dX11_gatherBearers_10 hl (by decide) rfl (fun ls hl => ?_)
      refine lv_aload_n hx hb dX11_gatherBearers_12 rfl (lv_at hl 2 rfl) ?_
      refine va_get (D := D) (ci := 11) (v := .ref x4) (C := RX11) (T := TX11) (N := 11) hx hb hg inG11 hown hK hP 0 rfl rfl 4 (by decide) (hg _ wd_443) (fun _ h9 => h9) rfl dX11_gatherBearers_13 ?_
      obtain ⟨v36_0, v36_1, v36_2, v36_3, v36_4, v36_5, hM36, h36_0, h36_1, h36_2, h36_3, h36_4, h36_5⟩ := hW.open_7 i4
      have hPc : va_P D vwCl ([] ++ va_pl L M) H_7 := hP.part (cx := []) [] rfl
      have hDc : va_D A ([] ++ va_pl L M) := hD.part (cx := []) [] (by decide) rfl
      have hFc : ∀ q, va_A ([] ++ va_pl L M) H_7.size q → A q := pg_free hDc hS hA
      refine va_callv (va_runV (As := []) (rest := []) ⟨hx, hb, hml, hown, hg⟩ (s_X7_start l D cy K L M H_7.size x4  hW i4) (cwV 0 hg (gV wd_444 wd_209 wd_210 wd_148 wd_211) rfl rfl rfl (by decide +kernel) ⟨(Nat.le_trans (Nat.le_of_ble_eq_true rfl) hRf), (Nat.le_trans (Nat.le_of_ble_eq_true rfl) hRl)⟩) ⟨PG.blind, pg_recv hK hP i4.1 hM36 rfl, fun U hU hW => ⟨rfl, PG.at hPc hK hDc hN hU hW⟩⟩ rfl rfl hl.1 rfl (lv_room (Nat.le_of_ble_eq_true rfl)) dX11_gatherBearers_16 ⟨(Nat.le_trans (Nat.le_of_ble_eq_true rfl) hRc), (Nat.le_trans (Nat.le_of_ble_eq_true rfl) hRs)⟩) hS (fun q _ h => hFc q h) hFc (fun M_39 t H_37 locs ht hvm hw hB hz1 hk1 hS => ?_)
      obtain ⟨hW, hF2, hp_40⟩ := hw
      obtain ⟨hP1, hD1⟩ := hB
      rw [ht] at hP1
      obtain ⟨hP, hD⟩ := va_joinP (X := [(xa, (b11_1 x0 (nI x1) x2 (nI x3) x4 x5 x6 x7 x8 x9 x10))]) (cx := []) (wr := [(xa, (b11_1 x0 (nI x1) x2 (nI x3) x4 x5 x6 x7 x8 x9 x10))]) (rx := []) (pl := va_pl L M) (pl1 := va_pl L M_39) hP hD [] [0] rfl rfl (by decide) (by decide) hk1 hFc hP1 hD1
      have hP : va_P D vwCl ([(xa, (b11_1 x0 (nI x1) x2 (nI x3) x4 x5 x6 x7 x8 x9 x10))] ++ va_pl L M_39) H_37 := hP
      have hD : va_D A ([(xa, (b11_1 x0 (nI x1) x2 (nI x3) x4 x5 x6 x7 x8 x9 x10))] ++ va_pl L M_39) := hD
      have hM_41 : M_39 k1 = (b2_2 v1_0 v1_1 v1_2 v1_3 (nI v1_4) (nI v1_5) v1_6 v1_7 v1_8 (nI v1_9) v1_10 (nI v1_11) v1_12 v1_13 v1_14 v1_15 v1_16 v1_17 v1_18 v1_19) := (hF2.at ik1 (by decide)).trans hM1
      have hF : fr K L [7, 64, 68] M M_39 := hF.tr hF2 (by decide)
      refine lv_iconst (v := 0) hx hb dX11_gatherBearers_19 (by decide) ?_
      refine lv_istore (lv' := [(5, .int 0), (4, .ref b_11), (3, .null), (0, .ref xa), (1, .ref k1), (2, .int k2)]) hx hb dX11_gatherBearers_20 hl (by decide) rfl (fun ls hl => ?_)
      have key_42 : ∀ (fu_44 : Nat) (v5w45 : Nat) (M_47 : Hp) (H_48 : Heap) (locs : List Loc) (ls : Array Slot), 24 - v5w45 < fu_44 → v5w45 ≤ 24 → WOK cy K L M_47 → fr K L [7, 64, 68] M M_47 → va_P D vwCl ([(xa, (b11_1 x0 (nI x1) x2 (nI x3) x4 x5 x6 x7 x8 x9 x10))] ++ va_pl L M_47) H_48 → va_D A ([(xa, (b11_1 x0 (nI x1) x2 (nI x3) x4 x5 x6 x7 x8 x9 x10))] ++ va_pl L M_47) → va_S A s.heap H_48 locs → lv_has ls 7 [(5, .int (nI v5w45)), (4, .ref b_11), (3, .null), (0, .ref xa), (1, .ref k1), (2, .int k2)] → W p l e R s m ([.ref xa, .ref k1, .int k2] : List Value).toArray below meth c H_48 locs 0 0 Q (F0 m 22 ls []) := by
        intro fu_44
        induction fu_44 with
        | zero => intro v5w45 M_47 H_48 locs ls h; exact absurd h (Nat.not_lt_zero _)
        | succ fu_44 ih_43 =>
          intro v5w45 M_47 H_48 locs ls hfu hx_46 hW hF hP hD hS hl
          refine lv_iload hx hb dX11_gatherBearers_22 (lv_at hl 0 rfl) ?_
          refine lv_aload_n hx hb dX11_gatherBearers_24 rfl (lv_at hl 4 rfl) ?_
          obtain ⟨v49_0, v49_1, v49_2, v49_3, v49_4, v49_5, v49_6, v49_7, v49_8, v49_9, v49_10, v49_11, v49_12, v49_13, v49_14, v49_15, v49_16, v49_17, v49_18, v49_19, hM49, h49_3, h49_4, h49_5, h49_6, h49_7, h49_8, h49_9, h49_10, h49_11, h49_12, h49_13, h49_16, h49_17, h49_18, h49_19⟩ := hW.open_2 ik1
          refine pg_get (D := D) (ci := 2) (v := .int (nI v49_9)) (C := RX2) (T := TX2) (N := 20) hx hb hg inG2 hown hK hP ik1.1 hM49 rfl 9 (by decide) (hg _ wd_465) (fun _ h9 => h9) rfl dX11_gatherBearers_25 ?_
          refine lv_icmp_ge (tgt := 165) hx hb dX11_gatherBearers_28 (by decide) (fun c_50 => ?_) (fun c_50 => ?_)
          · have hz := rfl (a := 0)
            have n_51 : v49_9 ≤ v5w45 := (iLE (a := v49_9) (b := v5w45) (by omega) (by omega)).mp c_50
            rw [hQ]
            exact W.vret hx hb hr (fun t ht hW9 => ⟨⟨M_47, rfl, ⟨hW, hF, trivial⟩, ⟨by rw [ht]; exact hP, hD⟩⟩, hS.F ht⟩) hS.2.2 dX11_gatherBearers_165
          · have hz := rfl (a := 0)
            have n_52 : ¬ (v49_9 ≤ v5w45) := fun q => c_50 ((iLE (a := v49_9) (b := v5w45) (by omega) (by omega)).mpr q)
            refine lv_aload_n hx hb dX11_gatherBearers_31 rfl (lv_at hl 4 rfl) ?_
            refine lv_iload hx hb dX11_gatherBearers_32 (lv_at hl 0 rfl) ?_
            have hPc : va_P D vwCl ([] ++ va_pl L M_47) H_48 := hP.part (cx := []) [] rfl
            have hDc : va_D A ([] ++ va_pl L M_47) := hD.part (cx := []) [] (by decide) rfl
            have hFc : ∀ q, va_A ([] ++ va_pl L M_47) H_48.size q → A q := pg_free hDc hS hA
            refine va_callq (va_runV (As := [.int (nI v5w45)]) (rest := []) ⟨hx, hb, hml, hown, hg⟩ (s_X2_tenureAt l D cy K L M_47 H_48.size k1 (nI v5w45)  hW ik1) (cwV 1 hg (gV wd_405 wd_55 wd_56 wd_57 wd_58) rfl rfl rfl (by decide +kernel) ⟨(Nat.le_trans (Nat.le_of_ble_eq_true rfl) hRf), (Nat.le_trans (Nat.le_of_ble_eq_true rfl) hRl)⟩) ⟨PG.blind, pg_recv hK hP ik1.1 hM49 rfl, fun U hU hW => ⟨rfl, PG.at hPc hK hDc hN hU hW⟩⟩ rfl rfl hl.1 rfl (lv_room (Nat.le_of_ble_eq_true rfl)) dX11_gatherBearers_34 ⟨(Nat.le_trans (Nat.le_of_ble_eq_true rfl) hRc), (Nat.le_trans (Nat.le_of_ble_eq_true rfl) hRs)⟩) hS (fun q _ h => hFc q h) hFc (fun r_54 M_55 t H_53 locs ht hvm hw hB hz1 hk1 hS => ?_)
            have hp_56 := hw
            obtain ⟨hP1, hD1⟩ := hB
            rw [ht] at hP1
            obtain ⟨hP, hD⟩ := va_joinP (X := [(xa, (b11_1 x0 (nI x1) x2 (nI x3) x4 x5 x6 x7 x8 x9 x10))]) (cx := []) (wr := [(xa, (b11_1 x0 (nI x1) x2 (nI x3) x4 x5 x6 x7 x8 x9 x10))]) (rx := []) (pl := va_pl L M_47) (pl1 := va_pl L M_47) hP hD [] [0] rfl rfl (by decide) (by decide) hk1 hFc hP1 hD1
            have hP : va_P D vwCl ([(xa, (b11_1 x0 (nI x1) x2 (nI x3) x4 x5 x6 x7 x8 x9 x10))] ++ va_pl L M_47) H_53 := hP
            have hD : va_D A ([(xa, (b11_1 x0 (nI x1) x2 (nI x3) x4 x5 x6 x7 x8 x9 x10))] ++ va_pl L M_47) := hD
            rcases r_54 with _ | b_57
            · have hz := rfl (a := 0)
              refine lv_astoreN (lv' := [(6, .null), (5, .int (nI v5w45)), (4, .ref b_11), (3, .null), (0, .ref xa), (1, .ref k1), (2, .int k2)]) hx hb dX11_gatherBearers_37 hl (by decide) rfl (fun ls hl => ?_)
              refine lv_aloadN hx hb dX11_gatherBearers_39 (lv_at hl 0 rfl) ?_
              refine lv_ifnullN (tgt := 159) hx hb dX11_gatherBearers_41 (by decide) ?_
              refine lv_iinc (v := (nI (v5w45 + 1))) (lv' := [(5, .int (nI (v5w45 + 1))), (6, .null), (4, .ref b_11), (3, .null), (0, .ref xa), (1, .ref k1), (2, .int k2)]) hx hb dX11_gatherBearers_159 hl (k := 1) rfl (nI_1 v5w45) (by decide) rfl (fun ls hl => ?_)
              refine lv_goto (tgt := 22) hx hb dX11_gatherBearers_162 (by decide) ?_
              exact ih_43 (v5w45 + 1) M_47 H_53 _ _ (by omega) (by omega) hW hF hP hD hS (lv_sub hl [0, 2, 3, 4, 5, 6] rfl)
            · have hb_58 := hp_56 b_57 rfl
              refine lv_astore (lv' := [(6, .ref b_57), (5, .int (nI v5w45)), (4, .ref b_11), (3, .null), (0, .ref xa), (1, .ref k1), (2, .int k2)]) hx hb dX11_gatherBearers_37 hl (by decide) rfl (fun ls hl => ?_)
              refine lv_aload hx hb dX11_gatherBearers_39 (lv_at hl 0 rfl) ?_
              refine lv_ifnull hx hb dX11_gatherBearers_41 ?_
              refine lv_aload_nN hx hb dX11_gatherBearers_44 rfl (lv_at hl 3 rfl) ?_
              refine lv_ifnullN (tgt := 159) hx hb dX11_gatherBearers_45 (by decide) ?_
              refine lv_iinc (v := (nI (v5w45 + 1))) (lv' := [(5, .int (nI (v5w45 + 1))), (6, .ref b_57), (4, .ref b_11), (3, .null), (0, .ref xa), (1, .ref k1), (2, .int k2)]) hx hb dX11_gatherBearers_159 hl (k := 1) rfl (nI_1 v5w45) (by decide) rfl (fun ls hl => ?_)
              refine lv_goto (tgt := 22) hx hb dX11_gatherBearers_162 (by decide) ?_
              exact ih_43 (v5w45 + 1) M_47 H_53 _ _ (by omega) (by omega) hW hF hP hD hS (lv_sub hl [0, 2, 3, 4, 5, 6] rfl)
      exact key_42 (24 - 0 + 1) 0 M_39 H_37 _ _ (by omega) (by omega) hW hF hP hD hS (lv_sub hl [0, 1, 2, 3, 4, 5] rfl)
  · have hb_59 := hp_5 b_6 rfl
    refine lv_astore_n (lv' := [(3, .ref b_6), (0, .ref xa), (1, .ref k1), (2, .int k2)]) hx hb dX11_gatherBearers_5 rfl hl (by decide) rfl (fun ls hl => ?_)
    refine lv_aload_n hx hb dX11_gatherBearers_6 rfl (lv_at hl 2 rfl) ?_
    have hPc : va_P D vwCl ([] ++ va_pl L M) H_2 := hP.part (cx := []) [] rfl
    have hDc : va_D A ([] ++ va_pl L M) := hD.part (cx := []) [] (by decide) rfl
    have hFc : ∀ q, va_A ([] ++ va_pl L M) H_2.size q → A q := pg_free hDc hS hA
    refine va_callq (va_runV (As := []) (rest := []) ⟨hx, hb, hml, hown, hg⟩ (s_X2_latestRule l D cy K L M H_2.size k1  hW ik1) (cwV 0 hg (gV wd_461 wd_462 wd_463 wd_57 wd_464) rfl rfl rfl (by decide +kernel) ⟨(Nat.le_trans (Nat.le_of_ble_eq_true rfl) hRf), (Nat.le_trans (Nat.le_of_ble_eq_true rfl) hRl)⟩) ⟨PG.blind, pg_recv hK hP ik1.1 hM1 rfl, fun U hU hW => ⟨rfl, PG.at hPc hK hDc hN hU hW⟩⟩ rfl rfl hl.1 rfl (lv_room (Nat.le_of_ble_eq_true rfl)) dX11_gatherBearers_7 ⟨(Nat.le_trans (Nat.le_of_ble_eq_true rfl) hRc), (Nat.le_trans (Nat.le_of_ble_eq_true rfl) hRs)⟩) hS (fun q _ h => hFc q h) hFc (fun r_61 M_62 t H_60 locs ht hvm hw hB hz1 hk1 hS => ?_)
    have hp_63 := hw
    obtain ⟨hP1, hD1⟩ := hB
    rw [ht] at hP1
    obtain ⟨hP, hD⟩ := va_joinP (X := [(xa, (b11_1 x0 (nI x1) x2 (nI x3) x4 x5 x6 x7 x8 x9 x10))]) (cx := []) (wr := [(xa, (b11_1 x0 (nI x1) x2 (nI x3) x4 x5 x6 x7 x8 x9 x10))]) (rx := []) (pl := va_pl L M) (pl1 := va_pl L M) hP hD [] [0] rfl rfl (by decide) (by decide) hk1 hFc hP1 hD1
    have hP : va_P D vwCl ([(xa, (b11_1 x0 (nI x1) x2 (nI x3) x4 x5 x6 x7 x8 x9 x10))] ++ va_pl L M) H_60 := hP
    have hD : va_D A ([(xa, (b11_1 x0 (nI x1) x2 (nI x3) x4 x5 x6 x7 x8 x9 x10))] ++ va_pl L M) := hD
    rcases r_61 with _ | b_64
    · have hz := rfl (a := 0)
      refine lv_astoreN (lv' := [(4, .null), (3, .ref b_6), (0, .ref xa), (1, .ref k1), (2, .int k2)]) hx hb dX11_gatherBearers_10 hl (by decide) rfl (fun ls hl => ?_)
      refine lv_aload_n hx hb dX11_gatherBearers_12 rfl (lv_at hl 2 rfl) ?_
      refine va_get (D := D) (ci := 11) (v := .ref x4) (C := RX11) (T := TX11) (N := 11) hx hb hg inG11 hown hK hP 0 rfl rfl 4 (by decide) (hg _ wd_443) (fun _ h9 => h9) rfl dX11_gatherBearers_13 ?_
      obtain ⟨v65_0, v65_1, v65_2, v65_3, v65_4, v65_5, hM65, h65_0, h65_1, h65_2, h65_3, h65_4, h65_5⟩ := hW.open_7 i4
      have hPc : va_P D vwCl ([] ++ va_pl L M) H_60 := hP.part (cx := []) [] rfl
      have hDc : va_D A ([] ++ va_pl L M) := hD.part (cx := []) [] (by decide) rfl
      have hFc : ∀ q, va_A ([] ++ va_pl L M) H_60.size q → A q := pg_free hDc hS hA
      refine va_callv (va_runV (As := []) (rest := []) ⟨hx, hb, hml, hown, hg⟩ (s_X7_start l D cy K L M H_60.size x4  hW i4) (cwV 0 hg (gV wd_444 wd_209 wd_210 wd_148 wd_211) rfl rfl rfl (by decide +kernel) ⟨(Nat.le_trans (Nat.le_of_ble_eq_true rfl) hRf), (Nat.le_trans (Nat.le_of_ble_eq_true rfl) hRl)⟩) ⟨PG.blind, pg_recv hK hP i4.1 hM65 rfl, fun U hU hW => ⟨rfl, PG.at hPc hK hDc hN hU hW⟩⟩ rfl rfl hl.1 rfl (lv_room (Nat.le_of_ble_eq_true rfl)) dX11_gatherBearers_16 ⟨(Nat.le_trans (Nat.le_of_ble_eq_true rfl) hRc), (Nat.le_trans (Nat.le_of_ble_eq_true rfl) hRs)⟩) hS (fun q _ h => hFc q h) hFc (fun M_68 t H_66 locs ht hvm hw hB hz1 hk1 hS => ?_)
      obtain ⟨hW, hF2, hp_69⟩ := hw
      obtain ⟨hP1, hD1⟩ := hB
      rw [ht] at hP1
      obtain ⟨hP, hD⟩ := va_joinP (X := [(xa, (b11_1 x0 (nI x1) x2 (nI x3) x4 x5 x6 x7 x8 x9 x10))]) (cx := []) (wr := [(xa, (b11_1 x0 (nI x1) x2 (nI x3) x4 x5 x6 x7 x8 x9 x10))]) (rx := []) (pl := va_pl L M) (pl1 := va_pl L M_68) hP hD [] [0] rfl rfl (by decide) (by decide) hk1 hFc hP1 hD1
      have hP : va_P D vwCl ([(xa, (b11_1 x0 (nI x1) x2 (nI x3) x4 x5 x6 x7 x8 x9 x10))] ++ va_pl L M_68) H_66 := hP
      have hD : va_D A ([(xa, (b11_1 x0 (nI x1) x2 (nI x3) x4 x5 x6 x7 x8 x9 x10))] ++ va_pl L M_68) := hD
      have hM_70 : M_68 k1 = (b2_2 v1_0 v1_1 v1_2 v1_3 (nI v1_4) (nI v1_5) v1_6 v1_7 v1_8 (nI v1_9) v1_10 (nI v1_11) v1_12 v1_13 v1_14 v1_15 v1_16 v1_17 v1_18 v1_19) := (hF2.at ik1 (by decide)).trans hM1
      have hF : fr K L [7, 64, 68] M M_68 := hF.tr hF2 (by decide)
      refine lv_iconst (v := 0) hx hb dX11_gatherBearers_19 (by decide) ?_
      refine lv_istore (lv' := [(5, .int 0), (4, .null), (3, .ref b_6), (0, .ref xa), (1, .ref k1), (2, .int k2)]) hx hb dX11_gatherBearers_20 hl (by decide) rfl (fun ls hl => ?_)
      have key_71 : ∀ (fu_73 : Nat) (v5w74 : Nat) (M_76 : Hp) (H_77 : Heap) (locs : List Loc) (ls : Array Slot), 24 - v5w74 < fu_73 → v5w74 ≤ 24 → WOK cy K L M_76 → fr K L [7, 64, 68] M M_76 → va_P D vwCl ([(xa, (b11_1 x0 (nI x1) x2 (nI x3) x4 x5 x6 x7 x8 x9 x10))] ++ va_pl L M_76) H_77 → va_D A ([(xa, (b11_1 x0 (nI x1) x2 (nI x3) x4 x5 x6 x7 x8 x9 x10))] ++ va_pl L M_76) → va_S A s.heap H_77 locs → lv_has ls 7 [(5, .int (nI v5w74)), (4, .null), (3, .ref b_6), (0, .ref xa), (1, .ref k1), (2, .int k2)] → W p l e R s m ([.ref xa, .ref k1, .int k2] : List Value).toArray below meth c H_77 locs 0 0 Q (F0 m 22 ls []) := by
        intro fu_73
        induction fu_73 with
        | zero => intro v5w74 M_76 H_77 locs ls h; exact absurd h (Nat.not_lt_zero _)
        | succ fu_73 ih_72 =>
          intro v5w74 M_76 H_77 locs ls hfu hx_75 hW hF hP hD hS hl
          refine lv_iload hx hb dX11_gatherBearers_22 (lv_at hl 0 rfl) ?_
          refine lv_aload_n hx hb dX11_gatherBearers_24 rfl (lv_at hl 4 rfl) ?_
          obtain ⟨v78_0, v78_1, v78_2, v78_3, v78_4, v78_5, v78_6, v78_7, v78_8, v78_9, v78_10, v78_11, v78_12, v78_13, v78_14, v78_15, v78_16, v78_17, v78_18, v78_19, hM78, h78_3, h78_4, h78_5, h78_6, h78_7, h78_8, h78_9, h78_10, h78_11, h78_12, h78_13, h78_16, h78_17, h78_18, h78_19⟩ := hW.open_2 ik1
          refine pg_get (D := D) (ci := 2) (v := .int (nI v78_9)) (C := RX2) (T := TX2) (N := 20) hx hb hg inG2 hown hK hP ik1.1 hM78 rfl 9 (by decide) (hg _ wd_465) (fun _ h9 => h9) rfl dX11_gatherBearers_25 ?_
          refine lv_icmp_ge (tgt := 165) hx hb dX11_gatherBearers_28 (by decide) (fun c_79 => ?_) (fun c_79 => ?_)
          · have hz := rfl (a := 0)
            have n_80 : v78_9 ≤ v5w74 := (iLE (a := v78_9) (b := v5w74) (by omega) (by omega)).mp c_79
            rw [hQ]
            exact W.vret hx hb hr (fun t ht hW9 => ⟨⟨M_76, rfl, ⟨hW, hF, trivial⟩, ⟨by rw [ht]; exact hP, hD⟩⟩, hS.F ht⟩) hS.2.2 dX11_gatherBearers_165
          · have hz := rfl (a := 0)
            have n_81 : ¬ (v78_9 ≤ v5w74) := fun q => c_79 ((iLE (a := v78_9) (b := v5w74) (by omega) (by omega)).mpr q)
            refine lv_aload_n hx hb dX11_gatherBearers_31 rfl (lv_at hl 4 rfl) ?_
            refine lv_iload hx hb dX11_gatherBearers_32 (lv_at hl 0 rfl) ?_
            have hPc : va_P D vwCl ([] ++ va_pl L M_76) H_77 := hP.part (cx := []) [] rfl
            have hDc : va_D A ([] ++ va_pl L M_76) := hD.part (cx := []) [] (by decide) rfl
            have hFc : ∀ q, va_A ([] ++ va_pl L M_76) H_77.size q → A q := pg_free hDc hS hA
            refine va_callq (va_runV (As := [.int (nI v5w74)]) (rest := []) ⟨hx, hb, hml, hown, hg⟩ (s_X2_tenureAt l D cy K L M_76 H_77.size k1 (nI v5w74)  hW ik1) (cwV 1 hg (gV wd_405 wd_55 wd_56 wd_57 wd_58) rfl rfl rfl (by decide +kernel) ⟨(Nat.le_trans (Nat.le_of_ble_eq_true rfl) hRf), (Nat.le_trans (Nat.le_of_ble_eq_true rfl) hRl)⟩) ⟨PG.blind, pg_recv hK hP ik1.1 hM78 rfl, fun U hU hW => ⟨rfl, PG.at hPc hK hDc hN hU hW⟩⟩ rfl rfl hl.1 rfl (lv_room (Nat.le_of_ble_eq_true rfl)) dX11_gatherBearers_34 ⟨(Nat.le_trans (Nat.le_of_ble_eq_true rfl) hRc), (Nat.le_trans (Nat.le_of_ble_eq_true rfl) hRs)⟩) hS (fun q _ h => hFc q h) hFc (fun r_83 M_84 t H_82 locs ht hvm hw hB hz1 hk1 hS => ?_)
            have hp_85 := hw
            obtain ⟨hP1, hD1⟩ := hB
            rw [ht] at hP1
            obtain ⟨hP, hD⟩ := va_joinP (X := [(xa, (b11_1 x0 (nI x1) x2 (nI x3) x4 x5 x6 x7 x8 x9 x10))]) (cx := []) (wr := [(xa, (b11_1 x0 (nI x1) x2 (nI x3) x4 x5 x6 x7 x8 x9 x10))]) (rx := []) (pl := va_pl L M_76) (pl1 := va_pl L M_76) hP hD [] [0] rfl rfl (by decide) (by decide) hk1 hFc hP1 hD1
            have hP : va_P D vwCl ([(xa, (b11_1 x0 (nI x1) x2 (nI x3) x4 x5 x6 x7 x8 x9 x10))] ++ va_pl L M_76) H_82 := hP
            have hD : va_D A ([(xa, (b11_1 x0 (nI x1) x2 (nI x3) x4 x5 x6 x7 x8 x9 x10))] ++ va_pl L M_76) := hD
            rcases r_83 with _ | b_86
            · have hz := rfl (a := 0)
              refine lv_astoreN (lv' := [(6, .null), (5, .int (nI v5w74)), (4, .null), (3, .ref b_6), (0, .ref xa), (1, .ref k1), (2, .int k2)]) hx hb dX11_gatherBearers_37 hl (by decide) rfl (fun ls hl => ?_)
              refine lv_aloadN hx hb dX11_gatherBearers_39 (lv_at hl 0 rfl) ?_
              refine lv_ifnullN (tgt := 159) hx hb dX11_gatherBearers_41 (by decide) ?_
              refine lv_iinc (v := (nI (v5w74 + 1))) (lv' := [(5, .int (nI (v5w74 + 1))), (6, .null), (4, .null), (3, .ref b_6), (0, .ref xa), (1, .ref k1), (2, .int k2)]) hx hb dX11_gatherBearers_159 hl (k := 1) rfl (nI_1 v5w74) (by decide) rfl (fun ls hl => ?_)
              refine lv_goto (tgt := 22) hx hb dX11_gatherBearers_162 (by decide) ?_
              exact ih_72 (v5w74 + 1) M_76 H_82 _ _ (by omega) (by omega) hW hF hP hD hS (lv_sub hl [0, 2, 3, 4, 5, 6] rfl)
            · have hb_87 := hp_85 b_86 rfl
              refine lv_astore (lv' := [(6, .ref b_86), (5, .int (nI v5w74)), (4, .null), (3, .ref b_6), (0, .ref xa), (1, .ref k1), (2, .int k2)]) hx hb dX11_gatherBearers_37 hl (by decide) rfl (fun ls hl => ?_)
              refine lv_aload hx hb dX11_gatherBearers_39 (lv_at hl 0 rfl) ?_
              refine lv_ifnull hx hb dX11_gatherBearers_41 ?_
              refine lv_aload_n hx hb dX11_gatherBearers_44 rfl (lv_at hl 3 rfl) ?_
              refine lv_ifnull hx hb dX11_gatherBearers_45 ?_
              refine lv_aloadN hx hb dX11_gatherBearers_48 (lv_at hl 2 rfl) ?_
              refine lv_ifnonnullN hx hb dX11_gatherBearers_50 ?_
              refine lv_goto (tgt := 159) hx hb dX11_gatherBearers_53 (by decide) ?_
              refine lv_iinc (v := (nI (v5w74 + 1))) (lv' := [(5, .int (nI (v5w74 + 1))), (6, .ref b_86), (4, .null), (3, .ref b_6), (0, .ref xa), (1, .ref k1), (2, .int k2)]) hx hb dX11_gatherBearers_159 hl (k := 1) rfl (nI_1 v5w74) (by decide) rfl (fun ls hl => ?_)
              refine lv_goto (tgt := 22) hx hb dX11_gatherBearers_162 (by decide) ?_
              exact ih_72 (v5w74 + 1) M_76 H_82 _ _ (by omega) (by omega) hW hF hP hD hS (lv_sub hl [0, 2, 3, 4, 5, 6] rfl)
      exact key_71 (24 - 0 + 1) 0 M_68 H_66 _ _ (by omega) (by omega) hW hF hP hD hS (lv_sub hl [0, 1, 2, 3, 4, 5] rfl)
    · have hb_88 := hp_63 b_64 rfl
      refine lv_astore (lv' := [(4, .ref b_64), (3, .ref b_6), (0, .ref xa), (1, .ref k1), (2, .int k2)]) hx hb dX11_gatherBearers_10 hl (by decide) rfl (fun ls hl => ?_)
      refine lv_aload_n hx hb dX11_gatherBearers_12 rfl (lv_at hl 2 rfl) ?_
      refine va_get (D := D) (ci := 11) (v := .ref x4) (C := RX11) (T := TX11) (N := 11) hx hb hg inG11 hown hK hP 0 rfl rfl 4 (by decide) (hg _ wd_443) (fun _ h9 => h9) rfl dX11_gatherBearers_13 ?_
      obtain ⟨v89_0, v89_1, v89_2, v89_3, v89_4, v89_5, hM89, h89_0, h89_1, h89_2, h89_3, h89_4, h89_5⟩ := hW.open_7 i4
      have hPc : va_P D vwCl ([] ++ va_pl L M) H_60 := hP.part (cx := []) [] rfl
      have hDc : va_D A ([] ++ va_pl L M) := hD.part (cx := []) [] (by decide) rfl
      have hFc : ∀ q, va_A ([] ++ va_pl L M) H_60.size q → A q := pg_free hDc hS hA
      refine va_callv (va_runV (As := []) (rest := []) ⟨hx, hb, hml, hown, hg⟩ (s_X7_start l D cy K L M H_60.size x4  hW i4) (cwV 0 hg (gV wd_444 wd_209 wd_210 wd_148 wd_211) rfl rfl rfl (by decide +kernel) ⟨(Nat.le_trans (Nat.le_of_ble_eq_true rfl) hRf), (Nat.le_trans (Nat.le_of_ble_eq_true rfl) hRl)⟩) ⟨PG.blind, pg_recv hK hP i4.1 hM89 rfl, fun U hU hW => ⟨rfl, PG.at hPc hK hDc hN hU hW⟩⟩ rfl rfl hl.1 rfl (lv_room (Nat.le_of_ble_eq_true rfl)) dX11_gatherBearers_16 ⟨(Nat.le_trans (Nat.le_of_ble_eq_true rfl) hRc), (Nat.le_trans (Nat.le_of_ble_eq_true rfl) hRs)⟩) hS (fun q _ h => hFc q h) hFc (fun M_92 t H_90 locs ht hvm hw hB hz1 hk1 hS => ?_)
      obtain ⟨hW, hF2, hp_93⟩ := hw
      obtain ⟨hP1, hD1⟩ := hB
      rw [ht] at hP1
      obtain ⟨hP, hD⟩ := va_joinP (X := [(xa, (b11_1 x0 (nI x1) x2 (nI x3) x4 x5 x6 x7 x8 x9 x10))]) (cx := []) (wr := [(xa, (b11_1 x0 (nI x1) x2 (nI x3) x4 x5 x6 x7 x8 x9 x10))]) (rx := []) (pl := va_pl L M) (pl1 := va_pl L M_92) hP hD [] [0] rfl rfl (by decide) (by decide) hk1 hFc hP1 hD1
      have hP : va_P D vwCl ([(xa, (b11_1 x0 (nI x1) x2 (nI x3) x4 x5 x6 x7 x8 x9 x10))] ++ va_pl L M_92) H_90 := hP
      have hD : va_D A ([(xa, (b11_1 x0 (nI x1) x2 (nI x3) x4 x5 x6 x7 x8 x9 x10))] ++ va_pl L M_92) := hD
      have hM_94 : M_92 k1 = (b2_2 v1_0 v1_1 v1_2 v1_3 (nI v1_4) (nI v1_5) v1_6 v1_7 v1_8 (nI v1_9) v1_10 (nI v1_11) v1_12 v1_13 v1_14 v1_15 v1_16 v1_17 v1_18 v1_19) := (hF2.at ik1 (by decide)).trans hM1
      have hF : fr K L [7, 64, 68] M M_92 := hF.tr hF2 (by decide)
      refine lv_iconst (v := 0) hx hb dX11_gatherBearers_19 (by decide) ?_
      refine lv_istore (lv' := [(5, .int 0), (4, .ref b_64), (3, .ref b_6), (0, .ref xa), (1, .ref k1), (2, .int k2)]) hx hb dX11_gatherBearers_20 hl (by decide) rfl (fun ls hl => ?_)
      have key_95 : ∀ (fu_97 : Nat) (v5w98 : Nat) (M_100 : Hp) (H_101 : Heap) (locs : List Loc) (ls : Array Slot), 24 - v5w98 < fu_97 → v5w98 ≤ 24 → WOK cy K L M_100 → fr K L [7, 64, 68] M M_100 → va_P D vwCl ([(xa, (b11_1 x0 (nI x1) x2 (nI x3) x4 x5 x6 x7 x8 x9 x10))] ++ va_pl L M_100) H_101 → va_D A ([(xa, (b11_1 x0 (nI x1) x2 (nI x3) x4 x5 x6 x7 x8 x9 x10))] ++ va_pl L M_100) → va_S A s.heap H_101 locs → lv_has ls 7 [(5, .int (nI v5w98)), (4, .ref b_64), (3, .ref b_6), (0, .ref xa), (1, .ref k1), (2, .int k2)] → W p l e R s m ([.ref xa, .ref k1, .int k2] : List Value).toArray below meth c H_101 locs 0 0 Q (F0 m 22 ls []) := by
        intro fu_97
        induction fu_97 with
        | zero => intro v5w98 M_100 H_101 locs ls h; exact absurd h (Nat.not_lt_zero _)
        | succ fu_97 ih_96 =>
          intro v5w98 M_100 H_101 locs ls hfu hx_99 hW hF hP hD hS hl
          refine lv_iload hx hb dX11_gatherBearers_22 (lv_at hl 0 rfl) ?_
          refine lv_aload_n hx hb dX11_gatherBearers_24 rfl (lv_at hl 4 rfl) ?_
          obtain ⟨v102_0, v102_1, v102_2, v102_3, v102_4, v102_5, v102_6, v102_7, v102_8, v102_9, v102_10, v102_11, v102_12, v102_13, v102_14, v102_15, v102_16, v102_17, v102_18, v102_19, hM102, h102_3, h102_4, h102_5, h102_6, h102_7, h102_8, h102_9, h102_10, h102_11, h102_12, h102_13, h102_16, h102_17, h102_18, h102_19⟩ := hW.open_2 ik1
          refine pg_get (D := D) (ci := 2) (v := .int (nI v102_9)) (C := RX2) (T := TX2) (N := 20) hx hb hg inG2 hown hK hP ik1.1 hM102 rfl 9 (by decide) (hg _ wd_465) (fun _ h9 => h9) rfl dX11_gatherBearers_25 ?_
          refine lv_icmp_ge (tgt := 165) hx hb dX11_gatherBearers_28 (by decide) (fun c_103 => ?_) (fun c_103 => ?_)
          · have hz := rfl (a := 0)
            have n_104 : v102_9 ≤ v5w98 := (iLE (a := v102_9) (b := v5w98) (by omega) (by omega)).mp c_103
            rw [hQ]
            exact W.vret hx hb hr (fun t ht hW9 => ⟨⟨M_100, rfl, ⟨hW, hF, trivial⟩, ⟨by rw [ht]; exact hP, hD⟩⟩, hS.F ht⟩) hS.2.2 dX11_gatherBearers_165
          · have hz := rfl (a := 0)
            have n_105 : ¬ (v102_9 ≤ v5w98) := fun q => c_103 ((iLE (a := v102_9) (b := v5w98) (by omega) (by omega)).mpr q)
            refine lv_aload_n hx hb dX11_gatherBearers_31 rfl (lv_at hl 4 rfl) ?_
            refine lv_iload hx hb dX11_gatherBearers_32 (lv_at hl 0 rfl) ?_
            have hPc : va_P D vwCl ([] ++ va_pl L M_100) H_101 := hP.part (cx := []) [] rfl
            have hDc : va_D A ([] ++ va_pl L M_100) := hD.part (cx := []) [] (by decide) rfl
            have hFc : ∀ q, va_A ([] ++ va_pl L M_100) H_101.size q → A q := pg_free hDc hS hA
            refine va_callq (va_runV (As := [.int (nI v5w98)]) (rest := []) ⟨hx, hb, hml, hown, hg⟩ (s_X2_tenureAt l D cy K L M_100 H_101.size k1 (nI v5w98)  hW ik1) (cwV 1 hg (gV wd_405 wd_55 wd_56 wd_57 wd_58) rfl rfl rfl (by decide +kernel) ⟨(Nat.le_trans (Nat.le_of_ble_eq_true rfl) hRf), (Nat.le_trans (Nat.le_of_ble_eq_true rfl) hRl)⟩) ⟨PG.blind, pg_recv hK hP ik1.1 hM102 rfl, fun U hU hW => ⟨rfl, PG.at hPc hK hDc hN hU hW⟩⟩ rfl rfl hl.1 rfl (lv_room (Nat.le_of_ble_eq_true rfl)) dX11_gatherBearers_34 ⟨(Nat.le_trans (Nat.le_of_ble_eq_true rfl) hRc), (Nat.le_trans (Nat.le_of_ble_eq_true rfl) hRs)⟩) hS (fun q _ h => hFc q h) hFc (fun r_107 M_108 t H_106 locs ht hvm hw hB hz1 hk1 hS => ?_)
            have hp_109 := hw
            obtain ⟨hP1, hD1⟩ := hB
            rw [ht] at hP1
            obtain ⟨hP, hD⟩ := va_joinP (X := [(xa, (b11_1 x0 (nI x1) x2 (nI x3) x4 x5 x6 x7 x8 x9 x10))]) (cx := []) (wr := [(xa, (b11_1 x0 (nI x1) x2 (nI x3) x4 x5 x6 x7 x8 x9 x10))]) (rx := []) (pl := va_pl L M_100) (pl1 := va_pl L M_100) hP hD [] [0] rfl rfl (by decide) (by decide) hk1 hFc hP1 hD1
            have hP : va_P D vwCl ([(xa, (b11_1 x0 (nI x1) x2 (nI x3) x4 x5 x6 x7 x8 x9 x10))] ++ va_pl L M_100) H_106 := hP
            have hD : va_D A ([(xa, (b11_1 x0 (nI x1) x2 (nI x3) x4 x5 x6 x7 x8 x9 x10))] ++ va_pl L M_100) := hD
            rcases r_107 with _ | b_110
            · have hz := rfl (a := 0)
              refine lv_astoreN (lv' := [(6, .null), (5, .int (nI v5w98)), (4, .ref b_64), (3, .ref b_6), (0, .ref xa), (1, .ref k1), (2, .int k2)]) hx hb dX11_gatherBearers_37 hl (by decide) rfl (fun ls hl => ?_)
              refine lv_aloadN hx hb dX11_gatherBearers_39 (lv_at hl 0 rfl) ?_
              refine lv_ifnullN (tgt := 159) hx hb dX11_gatherBearers_41 (by decide) ?_
              refine lv_iinc (v := (nI (v5w98 + 1))) (lv' := [(5, .int (nI (v5w98 + 1))), (6, .null), (4, .ref b_64), (3, .ref b_6), (0, .ref xa), (1, .ref k1), (2, .int k2)]) hx hb dX11_gatherBearers_159 hl (k := 1) rfl (nI_1 v5w98) (by decide) rfl (fun ls hl => ?_)
              refine lv_goto (tgt := 22) hx hb dX11_gatherBearers_162 (by decide) ?_
              exact ih_96 (v5w98 + 1) M_100 H_106 _ _ (by omega) (by omega) hW hF hP hD hS (lv_sub hl [0, 2, 3, 4, 5, 6] rfl)
            · have hb_111 := hp_109 b_110 rfl
              refine lv_astore (lv' := [(6, .ref b_110), (5, .int (nI v5w98)), (4, .ref b_64), (3, .ref b_6), (0, .ref xa), (1, .ref k1), (2, .int k2)]) hx hb dX11_gatherBearers_37 hl (by decide) rfl (fun ls hl => ?_)
              refine lv_aload hx hb dX11_gatherBearers_39 (lv_at hl 0 rfl) ?_
              refine lv_ifnull hx hb dX11_gatherBearers_41 ?_
              refine lv_aload_n hx hb dX11_gatherBearers_44 rfl (lv_at hl 3 rfl) ?_
              refine lv_ifnull hx hb dX11_gatherBearers_45 ?_
              refine lv_aload hx hb dX11_gatherBearers_48 (lv_at hl 2 rfl) ?_
              refine lv_ifnonnull (tgt := 56) hx hb dX11_gatherBearers_50 (by decide) ?_
              refine lv_aload hx hb dX11_gatherBearers_56 (lv_at hl 0 rfl) ?_
              refine lv_iload_n hx hb dX11_gatherBearers_58 rfl (lv_at hl 6 rfl) ?_
              obtain ⟨v112_0, v112_1, v112_2, v112_3, v112_4, v112_5, v112_6, v112_7, v112_8, v112_9, v112_10, v112_11, v112_12, v112_13, v112_14, v112_15, hM112, h112_0, h112_1, h112_4, h112_8⟩ := hW.open_9 hb_111
              have hPc : va_P D vwCl ([] ++ va_pl L M_100) H_106 := hP.part (cx := []) [] rfl
              have hDc : va_D A ([] ++ va_pl L M_100) := hD.part (cx := []) [] (by decide) rfl
              have hFc : ∀ q, va_A ([] ++ va_pl L M_100) H_106.size q → A q := pg_free hDc hS hA
              refine va_calli (va_runV (As := [.int k2]) (rest := []) ⟨hx, hb, hml, hown, hg⟩ (s_X9_isIn l D cy K L M_100 H_106.size b_110 k2  hW hb_111) (cwV 1 hg (gV wd_406 wd_63 wd_64 wd_52 wd_65) rfl rfl rfl (by decide +kernel) ⟨(Nat.le_trans (Nat.le_of_ble_eq_true rfl) hRf), (Nat.le_trans (Nat.le_of_ble_eq_true rfl) hRl)⟩) ⟨PG.blind, pg_recv hK hP hb_111.1 hM112 rfl, fun U hU hW => ⟨rfl, PG.at hPc hK hDc hN hU hW⟩⟩ rfl rfl hl.1 rfl (lv_room (Nat.le_of_ble_eq_true rfl)) dX11_gatherBearers_59 ⟨(Nat.le_trans (Nat.le_of_ble_eq_true rfl) hRc), (Nat.le_trans (Nat.le_of_ble_eq_true rfl) hRs)⟩) hS (fun q _ h => hFc q h) hFc (fun r_114 M_115 t H_113 locs ht hvm hw hB hz1 hk1 hS => ?_)
              have hp_116 := hw
              obtain ⟨hP1, hD1⟩ := hB
              rw [ht] at hP1
              obtain ⟨hP, hD⟩ := va_joinP (X := [(xa, (b11_1 x0 (nI x1) x2 (nI x3) x4 x5 x6 x7 x8 x9 x10))]) (cx := []) (wr := [(xa, (b11_1 x0 (nI x1) x2 (nI x3) x4 x5 x6 x7 x8 x9 x10))]) (rx := []) (pl := va_pl L M_100) (pl1 := va_pl L M_100) hP hD [] [0] rfl rfl (by decide) (by decide) hk1 hFc hP1 hD1
              have hP : va_P D vwCl ([(xa, (b11_1 x0 (nI x1) x2 (nI x3) x4 x5 x6 x7 x8 x9 x10))] ++ va_pl L M_100) H_113 := hP
              have hD : va_D A ([(xa, (b11_1 x0 (nI x1) x2 (nI x3) x4 x5 x6 x7 x8 x9 x10))] ++ va_pl L M_100) := hD
              rcases hp_116 with rfl | rfl
              · have hz := rfl (a := 0)
                refine lv_if_eq (tgt := 113) hx hb dX11_gatherBearers_62 (by decide) (fun c_117 => absurd c_117 (by decide)) (fun _ => ?_)
                refine lv_aload hx hb dX11_gatherBearers_65 (lv_at hl 0 rfl) ?_
                have hPc : va_P D vwCl ([] ++ va_pl L M_100) H_113 := hP.part (cx := []) [] rfl
                have hDc : va_D A ([] ++ va_pl L M_100) := hD.part (cx := []) [] (by decide) rfl
                have hFc : ∀ q, va_A ([] ++ va_pl L M_100) H_113.size q → A q := pg_free hDc hS hA
                refine va_calli (va_runV (As := []) (rest := []) ⟨hx, hb, hml, hown, hg⟩ (s_X9_hasEnded l D cy K L M_100 H_113.size b_110  hW hb_111) (cwV 0 hg (gV wd_360 wd_50 wd_51 wd_52 wd_53) rfl rfl rfl (by decide +kernel) ⟨(Nat.le_trans (Nat.le_of_ble_eq_true rfl) hRf), (Nat.le_trans (Nat.le_of_ble_eq_true rfl) hRl)⟩) ⟨PG.blind, pg_recv hK hP hb_111.1 hM112 rfl, fun U hU hW => ⟨rfl, PG.at hPc hK hDc hN hU hW⟩⟩ rfl rfl hl.1 rfl (lv_room (Nat.le_of_ble_eq_true rfl)) dX11_gatherBearers_67 ⟨(Nat.le_trans (Nat.le_of_ble_eq_true rfl) hRc), (Nat.le_trans (Nat.le_of_ble_eq_true rfl) hRs)⟩) hS (fun q _ h => hFc q h) hFc (fun r_119 M_120 t H_118 locs ht hvm hw hB hz1 hk1 hS => ?_)
                have hp_121 := hw
                obtain ⟨hP1, hD1⟩ := hB
                rw [ht] at hP1
                obtain ⟨hP, hD⟩ := va_joinP (X := [(xa, (b11_1 x0 (nI x1) x2 (nI x3) x4 x5 x6 x7 x8 x9 x10))]) (cx := []) (wr := [(xa, (b11_1 x0 (nI x1) x2 (nI x3) x4 x5 x6 x7 x8 x9 x10))]) (rx := []) (pl := va_pl L M_100) (pl1 := va_pl L M_100) hP hD [] [0] rfl rfl (by decide) (by decide) hk1 hFc hP1 hD1
                have hP : va_P D vwCl ([(xa, (b11_1 x0 (nI x1) x2 (nI x3) x4 x5 x6 x7 x8 x9 x10))] ++ va_pl L M_100) H_118 := hP
                have hD : va_D A ([(xa, (b11_1 x0 (nI x1) x2 (nI x3) x4 x5 x6 x7 x8 x9 x10))] ++ va_pl L M_100) := hD
                rcases hp_121 with rfl | rfl
                · have hz := rfl (a := 0)
                  refine lv_if_eq (tgt := 90) hx hb dX11_gatherBearers_70 (by decide) (fun c_122 => absurd c_122 (by decide)) (fun _ => ?_)
                  refine lv_aload_n hx hb dX11_gatherBearers_73 rfl (lv_at hl 5 rfl) ?_
                  refine lv_aload hx hb dX11_gatherBearers_74 (lv_at hl 0 rfl) ?_
                  refine pg_get (D := D) (ci := 9) (v := .int v112_5) (C := RX9) (T := TX9) (N := 16) hx hb hg inG9 hown hK hP hb_111.1 hM112 rfl 5 (by decide) (hg _ wd_466) (fun _ h9 => h9) rfl dX11_gatherBearers_76 ?_
                  have hPc : va_P D vwCl ([] ++ va_pl L M_100) H_118 := hP.part (cx := []) [] rfl
                  have hDc : va_D A ([] ++ va_pl L M_100) := hD.part (cx := []) [] (by decide) rfl
                  have hFc : ∀ q, va_A ([] ++ va_pl L M_100) H_118.size q → A q := pg_free hDc hS hA
                  refine va_calli (va_runV (As := [.int v112_5]) (rest := []) ⟨hx, hb, hml, hown, hg⟩ (s_X2_yearsClosedSince l D cy K L M_100 H_118.size k1 v112_5  hW ik1) (cwV 1 hg (gV wd_467 wd_468 wd_469 wd_57 wd_470) rfl rfl rfl (by decide +kernel) ⟨(Nat.le_trans (Nat.le_of_ble_eq_true rfl) hRf), (Nat.le_trans (Nat.le_of_ble_eq_true rfl) hRl)⟩) ⟨PG.blind, pg_recv hK hP ik1.1 hM102 rfl, fun U hU hW => ⟨rfl, PG.at hPc hK hDc hN hU hW⟩⟩ rfl rfl hl.1 rfl (lv_room (Nat.le_of_ble_eq_true rfl)) dX11_gatherBearers_79 ⟨(Nat.le_trans (Nat.le_of_ble_eq_true rfl) hRc), (Nat.le_trans (Nat.le_of_ble_eq_true rfl) hRs)⟩) hS (fun q _ h => hFc q h) hFc (fun r_124 M_125 t H_123 locs ht hvm hw hB hz1 hk1 hS => ?_)
                  have hp_126 := hw
                  obtain ⟨hP1, hD1⟩ := hB
                  rw [ht] at hP1
                  obtain ⟨hP, hD⟩ := va_joinP (X := [(xa, (b11_1 x0 (nI x1) x2 (nI x3) x4 x5 x6 x7 x8 x9 x10))]) (cx := []) (wr := [(xa, (b11_1 x0 (nI x1) x2 (nI x3) x4 x5 x6 x7 x8 x9 x10))]) (rx := []) (pl := va_pl L M_100) (pl1 := va_pl L M_100) hP hD [] [0] rfl rfl (by decide) (by decide) hk1 hFc hP1 hD1
                  have hP : va_P D vwCl ([(xa, (b11_1 x0 (nI x1) x2 (nI x3) x4 x5 x6 x7 x8 x9 x10))] ++ va_pl L M_100) H_123 := hP
                  have hD : va_D A ([(xa, (b11_1 x0 (nI x1) x2 (nI x3) x4 x5 x6 x7 x8 x9 x10))] ++ va_pl L M_100) := hD
                  refine lv_aload hx hb dX11_gatherBearers_82 (lv_at hl 0 rfl) ?_
                  refine pg_get (D := D) (ci := 9) (v := .int v112_7) (C := RX9) (T := TX9) (N := 16) hx hb hg inG9 hown hK hP hb_111.1 hM112 rfl 7 (by decide) (hg _ wd_471) (fun _ h9 => h9) rfl dX11_gatherBearers_84 ?_
                  refine lv_icmp_ge (tgt := 113) hx hb dX11_gatherBearers_87 (by decide) (fun c_127 => ?_) (fun c_127 => ?_)
                  · have hz := rfl (a := 0)
                    refine lv_aload hx hb dX11_gatherBearers_113 (lv_at hl 0 rfl) ?_
                    refine pg_get (D := D) (ci := 9) (v := .int v112_3) (C := RX9) (T := TX9) (N := 16) hx hb hg inG9 hown hK hP hb_111.1 hM112 rfl 3 (by decide) (hg _ wd_365) (fun _ h9 => h9) rfl dX11_gatherBearers_115 ?_
                    refine lv_iload_n hx hb dX11_gatherBearers_118 rfl (lv_at hl 6 rfl) ?_
                    refine lv_icmp_le (tgt := 159) hx hb dX11_gatherBearers_119 (by decide) (fun c_128 => ?_) (fun c_128 => ?_)
                    · have hz := rfl (a := 0)
                      refine lv_iinc (v := (nI (v5w98 + 1))) (lv' := [(5, .int (nI (v5w98 + 1))), (6, .ref b_110), (4, .ref b_64), (3, .ref b_6), (0, .ref xa), (1, .ref k1), (2, .int k2)]) hx hb dX11_gatherBearers_159 hl (k := 1) rfl (nI_1 v5w98) (by decide) rfl (fun ls hl => ?_)
                      refine lv_goto (tgt := 22) hx hb dX11_gatherBearers_162 (by decide) ?_
                      exact ih_96 (v5w98 + 1) M_100 H_123 _ _ (by omega) (by omega) hW hF hP hD hS (lv_sub hl [0, 2, 3, 4, 5, 6] rfl)
                    · have hz := rfl (a := 0)
                      refine lv_aload hx hb dX11_gatherBearers_122 (lv_at hl 0 rfl) ?_
                      refine pg_get (D := D) (ci := 9) (v := .int v112_4) (C := RX9) (T := TX9) (N := 16) hx hb hg inG9 hown hK hP hb_111.1 hM112 rfl 4 (by decide) (hg _ wd_472) (fun _ h9 => h9) rfl dX11_gatherBearers_124 ?_
                      refine lv_if_eq (tgt := 159) hx hb dX11_gatherBearers_127 (by decide) (fun c_129 => ?_) (fun c_129 => ?_)
                      · have hz := rfl (a := 0)
                        refine lv_iinc (v := (nI (v5w98 + 1))) (lv' := [(5, .int (nI (v5w98 + 1))), (6, .ref b_110), (4, .ref b_64), (3, .ref b_6), (0, .ref xa), (1, .ref k1), (2, .int k2)]) hx hb dX11_gatherBearers_159 hl (k := 1) rfl (nI_1 v5w98) (by decide) rfl (fun ls hl => ?_)
                        refine lv_goto (tgt := 22) hx hb dX11_gatherBearers_162 (by decide) ?_
                        exact ih_96 (v5w98 + 1) M_100 H_123 _ _ (by omega) (by omega) hW hF hP hD hS (lv_sub hl [0, 2, 3, 4, 5, 6] rfl)
                      · have hz := rfl (a := 0)
                        refine lv_aload hx hb dX11_gatherBearers_130 (lv_at hl 0 rfl) ?_
                        have hPc : va_P D vwCl ([] ++ va_pl L M_100) H_123 := hP.part (cx := []) [] rfl
                        have hDc : va_D A ([] ++ va_pl L M_100) := hD.part (cx := []) [] (by decide) rfl
                        have hFc : ∀ q, va_A ([] ++ va_pl L M_100) H_123.size q → A q := pg_free hDc hS hA
                        refine va_calli (va_runV (As := []) (rest := []) ⟨hx, hb, hml, hown, hg⟩ (s_X9_hasEnded l D cy K L M_100 H_123.size b_110  hW hb_111) (cwV 0 hg (gV wd_360 wd_50 wd_51 wd_52 wd_53) rfl rfl rfl (by decide +kernel) ⟨(Nat.le_trans (Nat.le_of_ble_eq_true rfl) hRf), (Nat.le_trans (Nat.le_of_ble_eq_true rfl) hRl)⟩) ⟨PG.blind, pg_recv hK hP hb_111.1 hM112 rfl, fun U hU hW => ⟨rfl, PG.at hPc hK hDc hN hU hW⟩⟩ rfl rfl hl.1 rfl (lv_room (Nat.le_of_ble_eq_true rfl)) dX11_gatherBearers_132 ⟨(Nat.le_trans (Nat.le_of_ble_eq_true rfl) hRc), (Nat.le_trans (Nat.le_of_ble_eq_true rfl) hRs)⟩) hS (fun q _ h => hFc q h) hFc (fun r_131 M_132 t H_130 locs ht hvm hw hB hz1 hk1 hS => ?_)
                        have hp_133 := hw
                        obtain ⟨hP1, hD1⟩ := hB
                        rw [ht] at hP1
                        obtain ⟨hP, hD⟩ := va_joinP (X := [(xa, (b11_1 x0 (nI x1) x2 (nI x3) x4 x5 x6 x7 x8 x9 x10))]) (cx := []) (wr := [(xa, (b11_1 x0 (nI x1) x2 (nI x3) x4 x5 x6 x7 x8 x9 x10))]) (rx := []) (pl := va_pl L M_100) (pl1 := va_pl L M_100) hP hD [] [0] rfl rfl (by decide) (by decide) hk1 hFc hP1 hD1
                        have hP : va_P D vwCl ([(xa, (b11_1 x0 (nI x1) x2 (nI x3) x4 x5 x6 x7 x8 x9 x10))] ++ va_pl L M_100) H_130 := hP
                        have hD : va_D A ([(xa, (b11_1 x0 (nI x1) x2 (nI x3) x4 x5 x6 x7 x8 x9 x10))] ++ va_pl L M_100) := hD
                        rcases hp_133 with rfl | rfl
                        · have hz := rfl (a := 0)
                          refine lv_if_ne (tgt := 159) hx hb dX11_gatherBearers_135 (by decide) (fun _ => ?_) (fun c_134 => absurd c_134 (by decide))
                          refine lv_iinc (v := (nI (v5w98 + 1))) (lv' := [(5, .int (nI (v5w98 + 1))), (6, .ref b_110), (4, .ref b_64), (3, .ref b_6), (0, .ref xa), (1, .ref k1), (2, .int k2)]) hx hb dX11_gatherBearers_159 hl (k := 1) rfl (nI_1 v5w98) (by decide) rfl (fun ls hl => ?_)
                          refine lv_goto (tgt := 22) hx hb dX11_gatherBearers_162 (by decide) ?_
                          exact ih_96 (v5w98 + 1) M_100 H_130 _ _ (by omega) (by omega) hW hF hP hD hS (lv_sub hl [0, 2, 3, 4, 5, 6] rfl)
                        · have hz := rfl (a := 0)
                          refine lv_if_ne (tgt := 159) hx hb dX11_gatherBearers_135 (by decide) (fun c_135 => absurd c_135 (by decide)) (fun _ => ?_)
                          refine lv_aload_n hx hb dX11_gatherBearers_138 rfl (lv_at hl 4 rfl) ?_
                          refine va_get (D := D) (ci := 11) (v := .ref x4) (C := RX11) (T := TX11) (N := 11) hx hb hg inG11 hown hK hP 0 rfl rfl 4 (by decide) (hg _ wd_443) (fun _ h9 => h9) rfl dX11_gatherBearers_139 ?_
                          refine lv_aload hx hb dX11_gatherBearers_142 (lv_at hl 0 rfl) ?_
                          refine lv_aload hx hb dX11_gatherBearers_144 (lv_at hl 2 rfl) ?_
                          refine lv_aload hx hb dX11_gatherBearers_146 (lv_at hl 0 rfl) ?_
                          refine pg_get (D := D) (ci := 9) (v := .int v112_2) (C := RX9) (T := TX9) (N := 16) hx hb hg inG9 hown hK hP hb_111.1 hM112 rfl 2 (by decide) (hg _ wd_473) (fun _ h9 => h9) rfl dX11_gatherBearers_148 ?_
                          refine lv_iconst (v := 3) hx hb dX11_gatherBearers_151 (by decide) ?_
                          obtain ⟨v136_0, v136_1, v136_2, hM136, h136_2⟩ := hW.open_6 hb_88
                          have hPc : va_P D vwCl ([] ++ va_pl L M_100) H_130 := hP.part (cx := []) [] rfl
                          have hDc : va_D A ([] ++ va_pl L M_100) := hD.part (cx := []) [] (by decide) rfl
                          have hFc : ∀ q, va_A ([] ++ va_pl L M_100) H_130.size q → A q := pg_free hDc hS hA
                          refine va_calli (va_runV (As := [.int v112_2, .int 3]) (rest := [.ref b_110, .ref x4]) ⟨hx, hb, hml, hown, hg⟩ (s_X6_termOf l D cy K L M_100 H_130.size b_64 v112_2 3  hW hb_88) (cwV 2 hg (gV wd_474 wd_136 wd_137 wd_97 wd_138) rfl rfl rfl (by decide +kernel) ⟨(Nat.le_trans (Nat.le_of_ble_eq_true rfl) hRf), (Nat.le_trans (Nat.le_of_ble_eq_true rfl) hRl)⟩) ⟨PG.blind, pg_recv hK hP hb_88.1 hM136 rfl, fun U hU hW => ⟨rfl, PG.at hPc hK hDc hN hU hW⟩⟩ rfl rfl hl.1 rfl (lv_room (Nat.le_of_ble_eq_true rfl)) dX11_gatherBearers_152 ⟨(Nat.le_trans (Nat.le_of_ble_eq_true rfl) hRc), (Nat.le_trans (Nat.le_of_ble_eq_true rfl) hRs)⟩) hS (fun q _ h => hFc q h) hFc (fun r_138 M_139 t H_137 locs ht hvm hw hB hz1 hk1 hS => ?_)
                          have hp_140 := hw
                          obtain ⟨hP1, hD1⟩ := hB
                          rw [ht] at hP1
                          obtain ⟨hP, hD⟩ := va_joinP (X := [(xa, (b11_1 x0 (nI x1) x2 (nI x3) x4 x5 x6 x7 x8 x9 x10))]) (cx := []) (wr := [(xa, (b11_1 x0 (nI x1) x2 (nI x3) x4 x5 x6 x7 x8 x9 x10))]) (rx := []) (pl := va_pl L M_100) (pl1 := va_pl L M_100) hP hD [] [0] rfl rfl (by decide) (by decide) hk1 hFc hP1 hD1
                          have hP : va_P D vwCl ([(xa, (b11_1 x0 (nI x1) x2 (nI x3) x4 x5 x6 x7 x8 x9 x10))] ++ va_pl L M_100) H_137 := hP
                          have hD : va_D A ([(xa, (b11_1 x0 (nI x1) x2 (nI x3) x4 x5 x6 x7 x8 x9 x10))] ++ va_pl L M_100) := hD
                          refine lv_i2l hx hb dX11_gatherBearers_155 rfl ?_
                          refine lv_topl (fun f_141 ef_141 => ?_)
                          obtain ⟨v142_0, v142_1, v142_2, v142_3, v142_4, v142_5, hM142, h142_0, h142_1, h142_2, h142_3, h142_4, h142_5⟩ := hW.open_7 i4
                          have hPc : va_P D vwCl ([] ++ va_pl L M_100) H_137 := hP.part (cx := []) [] rfl
                          have hDc : va_D A ([] ++ va_pl L M_100) := hD.part (cx := []) [] (by decide) rfl
                          have hFc : ∀ q, va_A ([] ++ va_pl L M_100) H_137.size q → A q := pg_free hDc hS hA
                          refine va_callv (va_runV (As := [.ref b_110, .long f_141]) (rest := []) ⟨hx, hb, hml, hown, hg⟩ (s_X7_add_s l D cy K L M_100 H_137.size x4 b_110 f_141  hW i4 hb_111) (cwV 2 hg (gV wd_455 wd_214 wd_215 wd_148 wd_216) rfl rfl rfl (by decide +kernel) ⟨(Nat.le_trans (Nat.le_of_ble_eq_true rfl) hRf), (Nat.le_trans (Nat.le_of_ble_eq_true rfl) hRl)⟩) ⟨PG.blind, pg_recv hK hP i4.1 hM142 rfl, fun U hU hW => ⟨rfl, PG.at hPc hK hDc hN hU hW⟩⟩ rfl rfl hl.1 rfl (lv_room (Nat.le_of_ble_eq_true rfl)) dX11_gatherBearers_156 ⟨(Nat.le_trans (Nat.le_of_ble_eq_true rfl) hRc), (Nat.le_trans (Nat.le_of_ble_eq_true rfl) hRs)⟩) hS (fun q _ h => hFc q h) hFc (fun M_145 t H_143 locs ht hvm hw hB hz1 hk1 hS => ?_)
                          obtain ⟨hW, hF2, hp_146⟩ := hw
                          obtain ⟨hP1, hD1⟩ := hB
                          rw [ht] at hP1
                          obtain ⟨hP, hD⟩ := va_joinP (X := [(xa, (b11_1 x0 (nI x1) x2 (nI x3) x4 x5 x6 x7 x8 x9 x10))]) (cx := []) (wr := [(xa, (b11_1 x0 (nI x1) x2 (nI x3) x4 x5 x6 x7 x8 x9 x10))]) (rx := []) (pl := va_pl L M_100) (pl1 := va_pl L M_145) hP hD [] [0] rfl rfl (by decide) (by decide) hk1 hFc hP1 hD1
                          have hP : va_P D vwCl ([(xa, (b11_1 x0 (nI x1) x2 (nI x3) x4 x5 x6 x7 x8 x9 x10))] ++ va_pl L M_145) H_143 := hP
                          have hD : va_D A ([(xa, (b11_1 x0 (nI x1) x2 (nI x3) x4 x5 x6 x7 x8 x9 x10))] ++ va_pl L M_145) := hD
                          have hM_147 : M_145 k1 = (b2_2 v102_0 v102_1 v102_2 v102_3 (nI v102_4) (nI v102_5) v102_6 v102_7 v102_8 (nI v102_9) v102_10 (nI v102_11) v102_12 v102_13 v102_14 v102_15 v102_16 v102_17 v102_18 v102_19) := (hF2.at ik1 (by decide)).trans hM102
                          have hM_148 : M_145 b_110 = (b9_9 (nI v112_0) v112_1 v112_2 v112_3 v112_4 v112_5 v112_6 v112_7 v112_8 v112_9 v112_10 v112_11 v112_12 v112_13 v112_14 v112_15) := (hF2.at hb_111 (by decide)).trans hM112
                          have hM_149 : M_145 b_64 = (b6_13 v136_0 v136_1 v136_2) := (hF2.at hb_88 (by decide)).trans hM136
                          have hF : fr K L [7, 64, 68] M M_145 := hF.tr hF2 (by decide)
                          refine lv_iinc (v := (nI (v5w98 + 1))) (lv' := [(5, .int (nI (v5w98 + 1))), (6, .ref b_110), (4, .ref b_64), (3, .ref b_6), (0, .ref xa), (1, .ref k1), (2, .int k2)]) hx hb dX11_gatherBearers_159 hl (k := 1) rfl (nI_1 v5w98) (by decide) rfl (fun ls hl => ?_)
                          refine lv_goto (tgt := 22) hx hb dX11_gatherBearers_162 (by decide) ?_
                          exact ih_96 (v5w98 + 1) M_145 H_143 _ _ (by omega) (by omega) hW hF hP hD hS (lv_sub hl [0, 2, 3, 4, 5, 6] rfl)
                  · have hz := rfl (a := 0)
                    refine lv_aload_n hx hb dX11_gatherBearers_90 rfl (lv_at hl 4 rfl) ?_
                    refine va_get (D := D) (ci := 11) (v := .ref x4) (C := RX11) (T := TX11) (N := 11) hx hb hg inG11 hown hK hP 0 rfl rfl 4 (by decide) (hg _ wd_443) (fun _ h9 => h9) rfl dX11_gatherBearers_91 ?_
                    refine lv_aload hx hb dX11_gatherBearers_94 (lv_at hl 0 rfl) ?_
                    refine lv_aload_n hx hb dX11_gatherBearers_96 rfl (lv_at hl 3 rfl) ?_
                    refine lv_aload hx hb dX11_gatherBearers_97 (lv_at hl 0 rfl) ?_
                    refine pg_get (D := D) (ci := 9) (v := .int v112_2) (C := RX9) (T := TX9) (N := 16) hx hb hg inG9 hown hK hP hb_111.1 hM112 rfl 2 (by decide) (hg _ wd_473) (fun _ h9 => h9) rfl dX11_gatherBearers_99 ?_
                    refine lv_iconst (v := 3) hx hb dX11_gatherBearers_102 (by decide) ?_
                    obtain ⟨v150_0, v150_1, v150_2, hM150, h150_2⟩ := hW.open_6 hb_59
                    have hPc : va_P D vwCl ([] ++ va_pl L M_100) H_123 := hP.part (cx := []) [] rfl
                    have hDc : va_D A ([] ++ va_pl L M_100) := hD.part (cx := []) [] (by decide) rfl
                    have hFc : ∀ q, va_A ([] ++ va_pl L M_100) H_123.size q → A q := pg_free hDc hS hA
                    refine va_calli (va_runV (As := [.int v112_2, .int 3]) (rest := [.ref b_110, .ref x4]) ⟨hx, hb, hml, hown, hg⟩ (s_X6_termOf l D cy K L M_100 H_123.size b_6 v112_2 3  hW hb_59) (cwV 2 hg (gV wd_474 wd_136 wd_137 wd_97 wd_138) rfl rfl rfl (by decide +kernel) ⟨(Nat.le_trans (Nat.le_of_ble_eq_true rfl) hRf), (Nat.le_trans (Nat.le_of_ble_eq_true rfl) hRl)⟩) ⟨PG.blind, pg_recv hK hP hb_59.1 hM150 rfl, fun U hU hW => ⟨rfl, PG.at hPc hK hDc hN hU hW⟩⟩ rfl rfl hl.1 rfl (lv_room (Nat.le_of_ble_eq_true rfl)) dX11_gatherBearers_103 ⟨(Nat.le_trans (Nat.le_of_ble_eq_true rfl) hRc), (Nat.le_trans (Nat.le_of_ble_eq_true rfl) hRs)⟩) hS (fun q _ h => hFc q h) hFc (fun r_152 M_153 t H_151 locs ht hvm hw hB hz1 hk1 hS => ?_)
                    have hp_154 := hw
                    obtain ⟨hP1, hD1⟩ := hB
                    rw [ht] at hP1
                    obtain ⟨hP, hD⟩ := va_joinP (X := [(xa, (b11_1 x0 (nI x1) x2 (nI x3) x4 x5 x6 x7 x8 x9 x10))]) (cx := []) (wr := [(xa, (b11_1 x0 (nI x1) x2 (nI x3) x4 x5 x6 x7 x8 x9 x10))]) (rx := []) (pl := va_pl L M_100) (pl1 := va_pl L M_100) hP hD [] [0] rfl rfl (by decide) (by decide) hk1 hFc hP1 hD1
                    have hP : va_P D vwCl ([(xa, (b11_1 x0 (nI x1) x2 (nI x3) x4 x5 x6 x7 x8 x9 x10))] ++ va_pl L M_100) H_151 := hP
                    have hD : va_D A ([(xa, (b11_1 x0 (nI x1) x2 (nI x3) x4 x5 x6 x7 x8 x9 x10))] ++ va_pl L M_100) := hD
                    refine lv_i2l hx hb dX11_gatherBearers_106 rfl ?_
                    refine lv_topl (fun f_155 ef_155 => ?_)
                    obtain ⟨v156_0, v156_1, v156_2, v156_3, v156_4, v156_5, hM156, h156_0, h156_1, h156_2, h156_3, h156_4, h156_5⟩ := hW.open_7 i4
                    have hPc : va_P D vwCl ([] ++ va_pl L M_100) H_151 := hP.part (cx := []) [] rfl
                    have hDc : va_D A ([] ++ va_pl L M_100) := hD.part (cx := []) [] (by decide) rfl
                    have hFc : ∀ q, va_A ([] ++ va_pl L M_100) H_151.size q → A q := pg_free hDc hS hA
                    refine va_callv (va_runV (As := [.ref b_110, .long f_155]) (rest := []) ⟨hx, hb, hml, hown, hg⟩ (s_X7_add_s l D cy K L M_100 H_151.size x4 b_110 f_155  hW i4 hb_111) (cwV 2 hg (gV wd_455 wd_214 wd_215 wd_148 wd_216) rfl rfl rfl (by decide +kernel) ⟨(Nat.le_trans (Nat.le_of_ble_eq_true rfl) hRf), (Nat.le_trans (Nat.le_of_ble_eq_true rfl) hRl)⟩) ⟨PG.blind, pg_recv hK hP i4.1 hM156 rfl, fun U hU hW => ⟨rfl, PG.at hPc hK hDc hN hU hW⟩⟩ rfl rfl hl.1 rfl (lv_room (Nat.le_of_ble_eq_true rfl)) dX11_gatherBearers_107 ⟨(Nat.le_trans (Nat.le_of_ble_eq_true rfl) hRc), (Nat.le_trans (Nat.le_of_ble_eq_true rfl) hRs)⟩) hS (fun q _ h => hFc q h) hFc (fun M_159 t H_157 locs ht hvm hw hB hz1 hk1 hS => ?_)
                    obtain ⟨hW, hF2, hp_160⟩ := hw
                    obtain ⟨hP1, hD1⟩ := hB
                    rw [ht] at hP1
                    obtain ⟨hP, hD⟩ := va_joinP (X := [(xa, (b11_1 x0 (nI x1) x2 (nI x3) x4 x5 x6 x7 x8 x9 x10))]) (cx := []) (wr := [(xa, (b11_1 x0 (nI x1) x2 (nI x3) x4 x5 x6 x7 x8 x9 x10))]) (rx := []) (pl := va_pl L M_100) (pl1 := va_pl L M_159) hP hD [] [0] rfl rfl (by decide) (by decide) hk1 hFc hP1 hD1
                    have hP : va_P D vwCl ([(xa, (b11_1 x0 (nI x1) x2 (nI x3) x4 x5 x6 x7 x8 x9 x10))] ++ va_pl L M_159) H_157 := hP
                    have hD : va_D A ([(xa, (b11_1 x0 (nI x1) x2 (nI x3) x4 x5 x6 x7 x8 x9 x10))] ++ va_pl L M_159) := hD
                    have hM_161 : M_159 k1 = (b2_2 v102_0 v102_1 v102_2 v102_3 (nI v102_4) (nI v102_5) v102_6 v102_7 v102_8 (nI v102_9) v102_10 (nI v102_11) v102_12 v102_13 v102_14 v102_15 v102_16 v102_17 v102_18 v102_19) := (hF2.at ik1 (by decide)).trans hM102
                    have hM_162 : M_159 b_110 = (b9_9 (nI v112_0) v112_1 v112_2 v112_3 v112_4 v112_5 v112_6 v112_7 v112_8 v112_9 v112_10 v112_11 v112_12 v112_13 v112_14 v112_15) := (hF2.at hb_111 (by decide)).trans hM112
                    have hM_163 : M_159 b_6 = (b6_13 v150_0 v150_1 v150_2) := (hF2.at hb_59 (by decide)).trans hM150
                    have hF : fr K L [7, 64, 68] M M_159 := hF.tr hF2 (by decide)
                    refine lv_goto (tgt := 159) hx hb dX11_gatherBearers_110 (by decide) ?_
                    refine lv_iinc (v := (nI (v5w98 + 1))) (lv' := [(5, .int (nI (v5w98 + 1))), (6, .ref b_110), (4, .ref b_64), (3, .ref b_6), (0, .ref xa), (1, .ref k1), (2, .int k2)]) hx hb dX11_gatherBearers_159 hl (k := 1) rfl (nI_1 v5w98) (by decide) rfl (fun ls hl => ?_)
                    refine lv_goto (tgt := 22) hx hb dX11_gatherBearers_162 (by decide) ?_
                    exact ih_96 (v5w98 + 1) M_159 H_157 _ _ (by omega) (by omega) hW hF hP hD hS (lv_sub hl [0, 2, 3, 4, 5, 6] rfl)
                · have hz := rfl (a := 0)
                  refine lv_if_eq (tgt := 90) hx hb dX11_gatherBearers_70 (by decide) (fun _ => ?_) (fun c_164 => absurd c_164 (by decide))
                  refine lv_aload_n hx hb dX11_gatherBearers_90 rfl (lv_at hl 4 rfl) ?_
                  refine va_get (D := D) (ci := 11) (v := .ref x4) (C := RX11) (T := TX11) (N := 11) hx hb hg inG11 hown hK hP 0 rfl rfl 4 (by decide) (hg _ wd_443) (fun _ h9 => h9) rfl dX11_gatherBearers_91 ?_
                  refine lv_aload hx hb dX11_gatherBearers_94 (lv_at hl 0 rfl) ?_
                  refine lv_aload_n hx hb dX11_gatherBearers_96 rfl (lv_at hl 3 rfl) ?_
                  refine lv_aload hx hb dX11_gatherBearers_97 (lv_at hl 0 rfl) ?_
                  refine pg_get (D := D) (ci := 9) (v := .int v112_2) (C := RX9) (T := TX9) (N := 16) hx hb hg inG9 hown hK hP hb_111.1 hM112 rfl 2 (by decide) (hg _ wd_473) (fun _ h9 => h9) rfl dX11_gatherBearers_99 ?_
                  refine lv_iconst (v := 3) hx hb dX11_gatherBearers_102 (by decide) ?_
                  obtain ⟨v165_0, v165_1, v165_2, hM165, h165_2⟩ := hW.open_6 hb_59
                  have hPc : va_P D vwCl ([] ++ va_pl L M_100) H_118 := hP.part (cx := []) [] rfl
                  have hDc : va_D A ([] ++ va_pl L M_100) := hD.part (cx := []) [] (by decide) rfl
                  have hFc : ∀ q, va_A ([] ++ va_pl L M_100) H_118.size q → A q := pg_free hDc hS hA
                  refine va_calli (va_runV (As := [.int v112_2, .int 3]) (rest := [.ref b_110, .ref x4]) ⟨hx, hb, hml, hown, hg⟩ (s_X6_termOf l D cy K L M_100 H_118.size b_6 v112_2 3  hW hb_59) (cwV 2 hg (gV wd_474 wd_136 wd_137 wd_97 wd_138) rfl rfl rfl (by decide +kernel) ⟨(Nat.le_trans (Nat.le_of_ble_eq_true rfl) hRf), (Nat.le_trans (Nat.le_of_ble_eq_true rfl) hRl)⟩) ⟨PG.blind, pg_recv hK hP hb_59.1 hM165 rfl, fun U hU hW => ⟨rfl, PG.at hPc hK hDc hN hU hW⟩⟩ rfl rfl hl.1 rfl (lv_room (Nat.le_of_ble_eq_true rfl)) dX11_gatherBearers_103 ⟨(Nat.le_trans (Nat.le_of_ble_eq_true rfl) hRc), (Nat.le_trans (Nat.le_of_ble_eq_true rfl) hRs)⟩) hS (fun q _ h => hFc q h) hFc (fun r_167 M_168 t H_166 locs ht hvm hw hB hz1 hk1 hS => ?_)
                  have hp_169 := hw
                  obtain ⟨hP1, hD1⟩ := hB
                  rw [ht] at hP1
                  obtain ⟨hP, hD⟩ := va_joinP (X := [(xa, (b11_1 x0 (nI x1) x2 (nI x3) x4 x5 x6 x7 x8 x9 x10))]) (cx := []) (wr := [(xa, (b11_1 x0 (nI x1) x2 (nI x3) x4 x5 x6 x7 x8 x9 x10))]) (rx := []) (pl := va_pl L M_100) (pl1 := va_pl L M_100) hP hD [] [0] rfl rfl (by decide) (by decide) hk1 hFc hP1 hD1
                  have hP : va_P D vwCl ([(xa, (b11_1 x0 (nI x1) x2 (nI x3) x4 x5 x6 x7 x8 x9 x10))] ++ va_pl L M_100) H_166 := hP
                  have hD : va_D A ([(xa, (b11_1 x0 (nI x1) x2 (nI x3) x4 x5 x6 x7 x8 x9 x10))] ++ va_pl L M_100) := hD
                  refine lv_i2l hx hb dX11_gatherBearers_106 rfl ?_
                  refine lv_topl (fun f_170 ef_170 => ?_)
                  obtain ⟨v171_0, v171_1, v171_2, v171_3, v171_4, v171_5, hM171, h171_0, h171_1, h171_2, h171_3, h171_4, h171_5⟩ := hW.open_7 i4
                  have hPc : va_P D vwCl ([] ++ va_pl L M_100) H_166 := hP.part (cx := []) [] rfl
                  have hDc : va_D A ([] ++ va_pl L M_100) := hD.part (cx := []) [] (by decide) rfl
                  have hFc : ∀ q, va_A ([] ++ va_pl L M_100) H_166.size q → A q := pg_free hDc hS hA
                  refine va_callv (va_runV (As := [.ref b_110, .long f_170]) (rest := []) ⟨hx, hb, hml, hown, hg⟩ (s_X7_add_s l D cy K L M_100 H_166.size x4 b_110 f_170  hW i4 hb_111) (cwV 2 hg (gV wd_455 wd_214 wd_215 wd_148 wd_216) rfl rfl rfl (by decide +kernel) ⟨(Nat.le_trans (Nat.le_of_ble_eq_true rfl) hRf), (Nat.le_trans (Nat.le_of_ble_eq_true rfl) hRl)⟩) ⟨PG.blind, pg_recv hK hP i4.1 hM171 rfl, fun U hU hW => ⟨rfl, PG.at hPc hK hDc hN hU hW⟩⟩ rfl rfl hl.1 rfl (lv_room (Nat.le_of_ble_eq_true rfl)) dX11_gatherBearers_107 ⟨(Nat.le_trans (Nat.le_of_ble_eq_true rfl) hRc), (Nat.le_trans (Nat.le_of_ble_eq_true rfl) hRs)⟩) hS (fun q _ h => hFc q h) hFc (fun M_174 t H_172 locs ht hvm hw hB hz1 hk1 hS => ?_)
                  obtain ⟨hW, hF2, hp_175⟩ := hw
                  obtain ⟨hP1, hD1⟩ := hB
                  rw [ht] at hP1
                  obtain ⟨hP, hD⟩ := va_joinP (X := [(xa, (b11_1 x0 (nI x1) x2 (nI x3) x4 x5 x6 x7 x8 x9 x10))]) (cx := []) (wr := [(xa, (b11_1 x0 (nI x1) x2 (nI x3) x4 x5 x6 x7 x8 x9 x10))]) (rx := []) (pl := va_pl L M_100) (pl1 := va_pl L M_174) hP hD [] [0] rfl rfl (by decide) (by decide) hk1 hFc hP1 hD1
                  have hP : va_P D vwCl ([(xa, (b11_1 x0 (nI x1) x2 (nI x3) x4 x5 x6 x7 x8 x9 x10))] ++ va_pl L M_174) H_172 := hP
                  have hD : va_D A ([(xa, (b11_1 x0 (nI x1) x2 (nI x3) x4 x5 x6 x7 x8 x9 x10))] ++ va_pl L M_174) := hD
                  have hM_176 : M_174 k1 = (b2_2 v102_0 v102_1 v102_2 v102_3 (nI v102_4) (nI v102_5) v102_6 v102_7 v102_8 (nI v102_9) v102_10 (nI v102_11) v102_12 v102_13 v102_14 v102_15 v102_16 v102_17 v102_18 v102_19) := (hF2.at ik1 (by decide)).trans hM102
                  have hM_177 : M_174 b_110 = (b9_9 (nI v112_0) v112_1 v112_2 v112_3 v112_4 v112_5 v112_6 v112_7 v112_8 v112_9 v112_10 v112_11 v112_12 v112_13 v112_14 v112_15) := (hF2.at hb_111 (by decide)).trans hM112
                  have hM_178 : M_174 b_6 = (b6_13 v165_0 v165_1 v165_2) := (hF2.at hb_59 (by decide)).trans hM165
                  have hF : fr K L [7, 64, 68] M M_174 := hF.tr hF2 (by decide)
                  refine lv_goto (tgt := 159) hx hb dX11_gatherBearers_110 (by decide) ?_
                  refine lv_iinc (v := (nI (v5w98 + 1))) (lv' := [(5, .int (nI (v5w98 + 1))), (6, .ref b_110), (4, .ref b_64), (3, .ref b_6), (0, .ref xa), (1, .ref k1), (2, .int k2)]) hx hb dX11_gatherBearers_159 hl (k := 1) rfl (nI_1 v5w98) (by decide) rfl (fun ls hl => ?_)
                  refine lv_goto (tgt := 22) hx hb dX11_gatherBearers_162 (by decide) ?_
                  exact ih_96 (v5w98 + 1) M_174 H_172 _ _ (by omega) (by omega) hW hF hP hD hS (lv_sub hl [0, 2, 3, 4, 5, 6] rfl)
              · have hz := rfl (a := 0)
                refine lv_if_eq (tgt := 113) hx hb dX11_gatherBearers_62 (by decide) (fun _ => ?_) (fun c_179 => absurd c_179 (by decide))
                refine lv_aload hx hb dX11_gatherBearers_113 (lv_at hl 0 rfl) ?_
                refine pg_get (D := D) (ci := 9) (v := .int v112_3) (C := RX9) (T := TX9) (N := 16) hx hb hg inG9 hown hK hP hb_111.1 hM112 rfl 3 (by decide) (hg _ wd_365) (fun _ h9 => h9) rfl dX11_gatherBearers_115 ?_
                refine lv_iload_n hx hb dX11_gatherBearers_118 rfl (lv_at hl 6 rfl) ?_
                refine lv_icmp_le (tgt := 159) hx hb dX11_gatherBearers_119 (by decide) (fun c_180 => ?_) (fun c_180 => ?_)
                · have hz := rfl (a := 0)
                  refine lv_iinc (v := (nI (v5w98 + 1))) (lv' := [(5, .int (nI (v5w98 + 1))), (6, .ref b_110), (4, .ref b_64), (3, .ref b_6), (0, .ref xa), (1, .ref k1), (2, .int k2)]) hx hb dX11_gatherBearers_159 hl (k := 1) rfl (nI_1 v5w98) (by decide) rfl (fun ls hl => ?_)
                  refine lv_goto (tgt := 22) hx hb dX11_gatherBearers_162 (by decide) ?_
                  exact ih_96 (v5w98 + 1) M_100 H_113 _ _ (by omega) (by omega) hW hF hP hD hS (lv_sub hl [0, 2, 3, 4, 5, 6] rfl)
                · have hz := rfl (a := 0)
                  refine lv_aload hx hb dX11_gatherBearers_122 (lv_at hl 0 rfl) ?_
                  refine pg_get (D := D) (ci := 9) (v := .int v112_4) (C := RX9) (T := TX9) (N := 16) hx hb hg inG9 hown hK hP hb_111.1 hM112 rfl 4 (by decide) (hg _ wd_472) (fun _ h9 => h9) rfl dX11_gatherBearers_124 ?_
                  refine lv_if_eq (tgt := 159) hx hb dX11_gatherBearers_127 (by decide) (fun c_181 => ?_) (fun c_181 => ?_)
                  · have hz := rfl (a := 0)
                    refine lv_iinc (v := (nI (v5w98 + 1))) (lv' := [(5, .int (nI (v5w98 + 1))), (6, .ref b_110), (4, .ref b_64), (3, .ref b_6), (0, .ref xa), (1, .ref k1), (2, .int k2)]) hx hb dX11_gatherBearers_159 hl (k := 1) rfl (nI_1 v5w98) (by decide) rfl (fun ls hl => ?_)
                    refine lv_goto (tgt := 22) hx hb dX11_gatherBearers_162 (by decide) ?_
                    exact ih_96 (v5w98 + 1) M_100 H_113 _ _ (by omega) (by omega) hW hF hP hD hS (lv_sub hl [0, 2, 3, 4, 5, 6] rfl)
                  · have hz := rfl (a := 0)
                    refine lv_aload hx hb dX11_gatherBearers_130 (lv_at hl 0 rfl) ?_
                    have hPc : va_P D vwCl ([] ++ va_pl L M_100) H_113 := hP.part (cx := []) [] rfl
                    have hDc : va_D A ([] ++ va_pl L M_100) := hD.part (cx := []) [] (by decide) rfl
                    have hFc : ∀ q, va_A ([] ++ va_pl L M_100) H_113.size q → A q := pg_free hDc hS hA
                    refine va_calli (va_runV (As := []) (rest := []) ⟨hx, hb, hml, hown, hg⟩ (s_X9_hasEnded l D cy K L M_100 H_113.size b_110  hW hb_111) (cwV 0 hg (gV wd_360 wd_50 wd_51 wd_52 wd_53) rfl rfl rfl (by decide +kernel) ⟨(Nat.le_trans (Nat.le_of_ble_eq_true rfl) hRf), (Nat.le_trans (Nat.le_of_ble_eq_true rfl) hRl)⟩) ⟨PG.blind, pg_recv hK hP hb_111.1 hM112 rfl, fun U hU hW => ⟨rfl, PG.at hPc hK hDc hN hU hW⟩⟩ rfl rfl hl.1 rfl (lv_room (Nat.le_of_ble_eq_true rfl)) dX11_gatherBearers_132 ⟨(Nat.le_trans (Nat.le_of_ble_eq_true rfl) hRc), (Nat.le_trans (Nat.le_of_ble_eq_true rfl) hRs)⟩) hS (fun q _ h => hFc q h) hFc (fun r_183 M_184 t H_182 locs ht hvm hw hB hz1 hk1 hS => ?_)
                    have hp_185 := hw
                    obtain ⟨hP1, hD1⟩ := hB
                    rw [ht] at hP1
                    obtain ⟨hP, hD⟩ := va_joinP (X := [(xa, (b11_1 x0 (nI x1) x2 (nI x3) x4 x5 x6 x7 x8 x9 x10))]) (cx := []) (wr := [(xa, (b11_1 x0 (nI x1) x2 (nI x3) x4 x5 x6 x7 x8 x9 x10))]) (rx := []) (pl := va_pl L M_100) (pl1 := va_pl L M_100) hP hD [] [0] rfl rfl (by decide) (by decide) hk1 hFc hP1 hD1
                    have hP : va_P D vwCl ([(xa, (b11_1 x0 (nI x1) x2 (nI x3) x4 x5 x6 x7 x8 x9 x10))] ++ va_pl L M_100) H_182 := hP
                    have hD : va_D A ([(xa, (b11_1 x0 (nI x1) x2 (nI x3) x4 x5 x6 x7 x8 x9 x10))] ++ va_pl L M_100) := hD
                    rcases hp_185 with rfl | rfl
                    · have hz := rfl (a := 0)
                      refine lv_if_ne (tgt := 159) hx hb dX11_gatherBearers_135 (by decide) (fun _ => ?_) (fun c_186 => absurd c_186 (by decide))
                      refine lv_iinc (v := (nI (v5w98 + 1))) (lv' := [(5, .int (nI (v5w98 + 1))), (6, .ref b_110), (4, .ref b_64), (3, .ref b_6), (0, .ref xa), (1, .ref k1), (2, .int k2)]) hx hb dX11_gatherBearers_159 hl (k := 1) rfl (nI_1 v5w98) (by decide) rfl (fun ls hl => ?_)
                      refine lv_goto (tgt := 22) hx hb dX11_gatherBearers_162 (by decide) ?_
                      exact ih_96 (v5w98 + 1) M_100 H_182 _ _ (by omega) (by omega) hW hF hP hD hS (lv_sub hl [0, 2, 3, 4, 5, 6] rfl)
                    · have hz := rfl (a := 0)
                      refine lv_if_ne (tgt := 159) hx hb dX11_gatherBearers_135 (by decide) (fun c_187 => absurd c_187 (by decide)) (fun _ => ?_)
                      refine lv_aload_n hx hb dX11_gatherBearers_138 rfl (lv_at hl 4 rfl) ?_
                      refine va_get (D := D) (ci := 11) (v := .ref x4) (C := RX11) (T := TX11) (N := 11) hx hb hg inG11 hown hK hP 0 rfl rfl 4 (by decide) (hg _ wd_443) (fun _ h9 => h9) rfl dX11_gatherBearers_139 ?_
                      refine lv_aload hx hb dX11_gatherBearers_142 (lv_at hl 0 rfl) ?_
                      refine lv_aload hx hb dX11_gatherBearers_144 (lv_at hl 2 rfl) ?_
                      refine lv_aload hx hb dX11_gatherBearers_146 (lv_at hl 0 rfl) ?_
                      refine pg_get (D := D) (ci := 9) (v := .int v112_2) (C := RX9) (T := TX9) (N := 16) hx hb hg inG9 hown hK hP hb_111.1 hM112 rfl 2 (by decide) (hg _ wd_473) (fun _ h9 => h9) rfl dX11_gatherBearers_148 ?_
                      refine lv_iconst (v := 3) hx hb dX11_gatherBearers_151 (by decide) ?_
                      obtain ⟨v188_0, v188_1, v188_2, hM188, h188_2⟩ := hW.open_6 hb_88
                      have hPc : va_P D vwCl ([] ++ va_pl L M_100) H_182 := hP.part (cx := []) [] rfl
                      have hDc : va_D A ([] ++ va_pl L M_100) := hD.part (cx := []) [] (by decide) rfl
                      have hFc : ∀ q, va_A ([] ++ va_pl L M_100) H_182.size q → A q := pg_free hDc hS hA
                      refine va_calli (va_runV (As := [.int v112_2, .int 3]) (rest := [.ref b_110, .ref x4]) ⟨hx, hb, hml, hown, hg⟩ (s_X6_termOf l D cy K L M_100 H_182.size b_64 v112_2 3  hW hb_88) (cwV 2 hg (gV wd_474 wd_136 wd_137 wd_97 wd_138) rfl rfl rfl (by decide +kernel) ⟨(Nat.le_trans (Nat.le_of_ble_eq_true rfl) hRf), (Nat.le_trans (Nat.le_of_ble_eq_true rfl) hRl)⟩) ⟨PG.blind, pg_recv hK hP hb_88.1 hM188 rfl, fun U hU hW => ⟨rfl, PG.at hPc hK hDc hN hU hW⟩⟩ rfl rfl hl.1 rfl (lv_room (Nat.le_of_ble_eq_true rfl)) dX11_gatherBearers_152 ⟨(Nat.le_trans (Nat.le_of_ble_eq_true rfl) hRc), (Nat.le_trans (Nat.le_of_ble_eq_true rfl) hRs)⟩) hS (fun q _ h => hFc q h) hFc (fun r_190 M_191 t H_189 locs ht hvm hw hB hz1 hk1 hS => ?_)
                      have hp_192 := hw
                      obtain ⟨hP1, hD1⟩ := hB
                      rw [ht] at hP1
                      obtain ⟨hP, hD⟩ := va_joinP (X := [(xa, (b11_1 x0 (nI x1) x2 (nI x3) x4 x5 x6 x7 x8 x9 x10))]) (cx := []) (wr := [(xa, (b11_1 x0 (nI x1) x2 (nI x3) x4 x5 x6 x7 x8 x9 x10))]) (rx := []) (pl := va_pl L M_100) (pl1 := va_pl L M_100) hP hD [] [0] rfl rfl (by decide) (by decide) hk1 hFc hP1 hD1
                      have hP : va_P D vwCl ([(xa, (b11_1 x0 (nI x1) x2 (nI x3) x4 x5 x6 x7 x8 x9 x10))] ++ va_pl L M_100) H_189 := hP
                      have hD : va_D A ([(xa, (b11_1 x0 (nI x1) x2 (nI x3) x4 x5 x6 x7 x8 x9 x10))] ++ va_pl L M_100) := hD
                      refine lv_i2l hx hb dX11_gatherBearers_155 rfl ?_
                      refine lv_topl (fun f_193 ef_193 => ?_)
                      obtain ⟨v194_0, v194_1, v194_2, v194_3, v194_4, v194_5, hM194, h194_0, h194_1, h194_2, h194_3, h194_4, h194_5⟩ := hW.open_7 i4
                      have hPc : va_P D vwCl ([] ++ va_pl L M_100) H_189 := hP.part (cx := []) [] rfl
                      have hDc : va_D A ([] ++ va_pl L M_100) := hD.part (cx := []) [] (by decide) rfl
                      have hFc : ∀ q, va_A ([] ++ va_pl L M_100) H_189.size q → A q := pg_free hDc hS hA
                      refine va_callv (va_runV (As := [.ref b_110, .long f_193]) (rest := []) ⟨hx, hb, hml, hown, hg⟩ (s_X7_add_s l D cy K L M_100 H_189.size x4 b_110 f_193  hW i4 hb_111) (cwV 2 hg (gV wd_455 wd_214 wd_215 wd_148 wd_216) rfl rfl rfl (by decide +kernel) ⟨(Nat.le_trans (Nat.le_of_ble_eq_true rfl) hRf), (Nat.le_trans (Nat.le_of_ble_eq_true rfl) hRl)⟩) ⟨PG.blind, pg_recv hK hP i4.1 hM194 rfl, fun U hU hW => ⟨rfl, PG.at hPc hK hDc hN hU hW⟩⟩ rfl rfl hl.1 rfl (lv_room (Nat.le_of_ble_eq_true rfl)) dX11_gatherBearers_156 ⟨(Nat.le_trans (Nat.le_of_ble_eq_true rfl) hRc), (Nat.le_trans (Nat.le_of_ble_eq_true rfl) hRs)⟩) hS (fun q _ h => hFc q h) hFc (fun M_197 t H_195 locs ht hvm hw hB hz1 hk1 hS => ?_)
                      obtain ⟨hW, hF2, hp_198⟩ := hw
                      obtain ⟨hP1, hD1⟩ := hB
                      rw [ht] at hP1
                      obtain ⟨hP, hD⟩ := va_joinP (X := [(xa, (b11_1 x0 (nI x1) x2 (nI x3) x4 x5 x6 x7 x8 x9 x10))]) (cx := []) (wr := [(xa, (b11_1 x0 (nI x1) x2 (nI x3) x4 x5 x6 x7 x8 x9 x10))]) (rx := []) (pl := va_pl L M_100) (pl1 := va_pl L M_197) hP hD [] [0] rfl rfl (by decide) (by decide) hk1 hFc hP1 hD1
                      have hP : va_P D vwCl ([(xa, (b11_1 x0 (nI x1) x2 (nI x3) x4 x5 x6 x7 x8 x9 x10))] ++ va_pl L M_197) H_195 := hP
                      have hD : va_D A ([(xa, (b11_1 x0 (nI x1) x2 (nI x3) x4 x5 x6 x7 x8 x9 x10))] ++ va_pl L M_197) := hD
                      have hM_199 : M_197 k1 = (b2_2 v102_0 v102_1 v102_2 v102_3 (nI v102_4) (nI v102_5) v102_6 v102_7 v102_8 (nI v102_9) v102_10 (nI v102_11) v102_12 v102_13 v102_14 v102_15 v102_16 v102_17 v102_18 v102_19) := (hF2.at ik1 (by decide)).trans hM102
                      have hM_200 : M_197 b_110 = (b9_9 (nI v112_0) v112_1 v112_2 v112_3 v112_4 v112_5 v112_6 v112_7 v112_8 v112_9 v112_10 v112_11 v112_12 v112_13 v112_14 v112_15) := (hF2.at hb_111 (by decide)).trans hM112
                      have hM_201 : M_197 b_64 = (b6_13 v188_0 v188_1 v188_2) := (hF2.at hb_88 (by decide)).trans hM188
                      have hF : fr K L [7, 64, 68] M M_197 := hF.tr hF2 (by decide)
                      refine lv_iinc (v := (nI (v5w98 + 1))) (lv' := [(5, .int (nI (v5w98 + 1))), (6, .ref b_110), (4, .ref b_64), (3, .ref b_6), (0, .ref xa), (1, .ref k1), (2, .int k2)]) hx hb dX11_gatherBearers_159 hl (k := 1) rfl (nI_1 v5w98) (by decide) rfl (fun ls hl => ?_)
                      refine lv_goto (tgt := 22) hx hb dX11_gatherBearers_162 (by decide) ?_
                      exact ih_96 (v5w98 + 1) M_197 H_195 _ _ (by omega) (by omega) hW hF hP hD hS (lv_sub hl [0, 2, 3, 4, 5, 6] rfl)
      exact key_95 (24 - 0 + 1) 0 M_92 H_90 _ _ (by omega) (by omega) hW hF hP hD hS (lv_sub hl [0, 1, 2, 3, 4, 5] rfl)
set_option maxHeartbeats 4000000 in
set_option maxRecDepth 100000 in
theorem s_X11_keepDebtParts (l : Launch) (D : va_G) (cy : Nat → ClassId) (K : Kp) (L : List Nat) (M : Hp) (sz : Nat) (xa : Nat) (x0 : Nat) (x1 : Nat) (x2 : Nat) (x3 : Nat) (x4 : Nat) (x5 : Nat) (x6 : Nat) (x7 : Int32) (x8 : Nat) (x9 : Int32) (x10 : Int32) (hW : WOK cy K L M) (i0 : isk K L x0 17 8) (b1 : x1 ≤ 8) (i2 : isk K L x2 19 40) (b3 : x3 ≤ 40) (i4 : isk K L x4 7 0) (i5 : isk K L x5 5 0) (i6 : isk K L x6 60 24) (i8 : isk K L x8 73 25) : Met l yX11_keepDebtParts (wsM yX11_keepDebtParts cX11_keepDebtParts 4 (some .int)) ({ frames := 1, cells := 0, slots := 0, locals := 23 }) (va_Pc [.ref xa] (PG D cy [(xa, (b11_1 x0 (nI x1) x2 (nI x3) x4 x5 x6 x7 x8 x9 x10))] L M sz)) (va_Qi (fun (r : Int32) (M9 : Hp) => WOK cy K L M9 ∧ fr K L [60] M M9 ∧ (True)) (fun M9 t => PQ D [(xa, (b11_1 x0 (nI x1) x2 (nI x3) x4 x5 x6 x7 x8 x9 x10))] L M9 (va_A ([(xa, (b11_1 x0 (nI x1) x2 (nI x3) x4 x5 x6 x7 x8 x9 x10))] ++ va_pl L M) sz) t) (va_A ([(xa, (b11_1 x0 (nI x1) x2 (nI x3) x4 x5 x6 x7 x8 x9 x10))] ++ va_pl L M) sz)) 0 0 (va_A ([(xa, (b11_1 x0 (nI x1) x2 (nI x3) x4 x5 x6 x7 x8 x9 x10))] ++ va_pl L M) sz) := by
  refine Met.ofW (cc := cX11_keepDebtParts) (maxL := 4) (ret := (some .int)) (by decide) rfl ?_
  intro p e s m args below meth c s₁ B hml hv
  obtain ⟨rfl, hsz, hP, hK, hD0, hN⟩ := hv
  have hx := B.exec
  have hb := B.bytes
  have hr := B.returns
  have hts := atoms_spec (ws := (wsM yX11_keepDebtParts cX11_keepDebtParts 4 (some .int))) B.pre
  have hg : ∀ w ∈ lw_good, w.before _ s = true := fun w h => hts w (List.mem_cons_of_mem _ h)
  have hown : s.vm.findClass RX11 = some m.cls := findClass_of_methodNamed B.named
  have hlocks := B.notSynchronized
  subst hsz
  have hD := hD0.self (sz := s.heap.size)
  generalize hAe : va_A ([(xa, (b11_1 x0 (nI x1) x2 (nI x3) x4 x5 x6 x7 x8 x9 x10))] ++ va_pl L M) s.heap.size = A at hD ⊢
  have hA : ∀ q : Nat, s.heap.size ≤ q → A q := fun q h => by rw [← hAe]; exact Or.inr h
  have hS : va_S A s.heap s.heap [] := va_S.rf
  have hl := lv_entry ([.ref xa]) (n := 4) (Nat.le_of_ble_eq_true rfl)
  rw [lg_entry_eq]
  generalize (lg_sl ([.ref xa]) ++ List.replicate (4 - (lg_sl ([.ref xa])).length) Slot.unset).toArray = ls at hl ⊢
  refine W.nameQ (fun Q hQ => ?_)
  refine W.nameR (fun R hR => ?_)
  have hRf : 1 ≤ R.frames := by rw [hR]; exact Nat.le_of_ble_eq_true rfl
  have hRl : 23 ≤ R.locals := by rw [hR]; exact Nat.le_of_ble_eq_true rfl
  have hRc : 0 ≤ R.cells := by rw [hR]; exact Nat.le_of_ble_eq_true rfl
  have hRs : 0 ≤ R.slots := by rw [hR]; exact Nat.le_of_ble_eq_true rfl
  have hF : fr K L [60] M M := fr.rf
  have hl : lv_has ls 4 [(0, .ref xa)] := hl
  refine lv_aload_n hx hb dX11_keepDebtParts_0 rfl (lv_at hl 0 rfl) ?_
  refine va_get (D := D) (ci := 11) (v := .ref x6) (C := RX11) (T := TX11) (N := 11) hx hb hg inG11 hown hK hP 0 rfl rfl 6 (by decide) (hg _ wd_475) (fun _ h9 => h9) rfl dX11_keepDebtParts_1 ?_
  refine lv_iconst (v := 0) hx hb dX11_keepDebtParts_4 (by decide) ?_
  have hPc : va_P D vwCl ([] ++ va_pl L M) s.heap := hP.part (cx := []) [] rfl
  have hDc : va_D A ([] ++ va_pl L M) := hD.part (cx := []) [] (by decide) rfl
  have hFc : ∀ q, va_A ([] ++ va_pl L M) s.heap.size q → A q := pg_free hDc hS hA
  refine va_callv (va_runS (As := [.ref x6, .int 0]) (rest := []) ⟨hx, hb, hml, hown, hg⟩ (s_J7_fill_53178_60 l D cy K L M s.heap.size x6 24 0  hW i6 (by omega)) (va_cwS 2 hg (gS wd_476 wd_304 wd_159 wd_305) rfl rfl rfl (by decide +kernel) ⟨(Nat.le_trans (Nat.le_of_ble_eq_true rfl) hRf), (Nat.le_trans (Nat.le_of_ble_eq_true rfl) hRl)⟩) ⟨PG.blind, fun U hU hW => ⟨rfl, PG.at hPc hK hDc hN hU hW⟩⟩ rfl rfl hl.1 rfl (lv_room (Nat.le_of_ble_eq_true rfl)) dX11_keepDebtParts_5 ⟨(Nat.le_trans (Nat.le_of_ble_eq_true rfl) hRc), (Nat.le_trans (Nat.le_of_ble_eq_true rfl) hRs)⟩) hS (fun q _ h => hFc q h) hFc (fun M_3 t H_1 locs ht hvm hw hB hz1 hk1 hS => ?_)
  obtain ⟨hW, hF2, hp_4⟩ := hw
  obtain ⟨hP1, hD1⟩ := hB
  rw [ht] at hP1
  obtain ⟨hP, hD⟩ := va_joinP (X := [(xa, (b11_1 x0 (nI x1) x2 (nI x3) x4 x5 x6 x7 x8 x9 x10))]) (cx := []) (wr := [(xa, (b11_1 x0 (nI x1) x2 (nI x3) x4 x5 x6 x7 x8 x9 x10))]) (rx := []) (pl := va_pl L M) (pl1 := va_pl L M_3) hP hD [] [0] rfl rfl (by decide) (by decide) hk1 hFc hP1 hD1
  have hP : va_P D vwCl ([(xa, (b11_1 x0 (nI x1) x2 (nI x3) x4 x5 x6 x7 x8 x9 x10))] ++ va_pl L M_3) H_1 := hP
  have hD : va_D A ([(xa, (b11_1 x0 (nI x1) x2 (nI x3) x4 x5 x6 x7 x8 x9 x10))] ++ va_pl L M_3) := hD
  have hF : fr K L [60] M M_3 := hF.tr hF2 (by decide)
  refine lv_iconst (v := 0) hx hb dX11_keepDebtParts_8 (by decide) ?_
  refine lv_istore_n (lv' := [(1, .int 0), (0, .ref xa)]) hx hb dX11_keepDebtParts_9 rfl hl (by decide) rfl (fun ls hl => ?_)
  refine lv_iconst (v := 0) hx hb dX11_keepDebtParts_10 (by decide) ?_
  refine lv_istore_n (lv' := [(2, .int 0), (1, .int 0), (0, .ref xa)]) hx hb dX11_keepDebtParts_11 rfl hl (by decide) rfl (fun ls hl => ?_)
  have key_5 : ∀ (fu_7 : Nat) (v1w8 : Int32) (v2w8 : Nat) (M_10 : Hp) (H_11 : Heap) (locs : List Loc) (ls : Array Slot), 100 - v2w8 < fu_7 → v2w8 ≤ 100 → WOK cy K L M_10 → fr K L [60] M M_10 → va_P D vwCl ([(xa, (b11_1 x0 (nI x1) x2 (nI x3) x4 x5 x6 x7 x8 x9 x10))] ++ va_pl L M_10) H_11 → va_D A ([(xa, (b11_1 x0 (nI x1) x2 (nI x3) x4 x5 x6 x7 x8 x9 x10))] ++ va_pl L M_10) → va_S A s.heap H_11 locs → lv_has ls 4 [(2, .int (nI v2w8)), (1, .int v1w8), (0, .ref xa)] → W p l e R s m ([.ref xa] : List Value).toArray below meth c H_11 locs 0 0 Q (F0 m 12 ls []) := by
    intro fu_7
    induction fu_7 with
    | zero => intro v1w8 v2w8 M_10 H_11 locs ls h; exact absurd h (Nat.not_lt_zero _)
    | succ fu_7 ih_6 =>
      intro v1w8 v2w8 M_10 H_11 locs ls hfu hx_9 hW hF hP hD hS hl
      refine lv_iload_n hx hb dX11_keepDebtParts_12 rfl (lv_at hl 0 rfl) ?_
      refine lv_aload_n hx hb dX11_keepDebtParts_13 rfl (lv_at hl 2 rfl) ?_
      refine va_get (D := D) (ci := 11) (v := .ref x4) (C := RX11) (T := TX11) (N := 11) hx hb hg inG11 hown hK hP 0 rfl rfl 4 (by decide) (hg _ wd_443) (fun _ h9 => h9) rfl dX11_keepDebtParts_14 ?_
      obtain ⟨v12_0, v12_1, v12_2, v12_3, v12_4, v12_5, hM12, h12_0, h12_1, h12_2, h12_3, h12_4, h12_5⟩ := hW.open_7 i4
      refine pg_get (D := D) (ci := 7) (v := .int (nI v12_5)) (C := RX7) (T := TX7) (N := 6) hx hb hg inG7 hown hK hP i4.1 hM12 rfl 5 (by decide) (hg _ wd_446) (fun _ h9 => h9) rfl dX11_keepDebtParts_17 ?_
      refine lv_icmp_ge (tgt := 88) hx hb dX11_keepDebtParts_20 (by decide) (fun c_13 => ?_) (fun c_13 => ?_)
      · have hz := rfl (a := 0)
        have n_14 : v12_5 ≤ v2w8 := (iLE (a := v12_5) (b := v2w8) (by omega) (by omega)).mp c_13
        refine lv_iload_n hx hb dX11_keepDebtParts_88 rfl (lv_at hl 1 rfl) ?_
        rw [hQ]
        exact W.iret (v := v1w8) hx hb hr (fun t ht hW9 => ⟨⟨v1w8, M_10, rfl, ⟨hW, hF, trivial⟩, ⟨by rw [ht]; exact hP, hD⟩⟩, hS.F ht⟩) hS.2.2 dX11_keepDebtParts_89
      · have hz := rfl (a := 0)
        have n_15 : ¬ (v12_5 ≤ v2w8) := fun q => c_13 ((iLE (a := v12_5) (b := v2w8) (by omega) (by omega)).mpr q)
        refine lv_aload_n hx hb dX11_keepDebtParts_23 rfl (lv_at hl 2 rfl) ?_
        refine va_get (D := D) (ci := 11) (v := .ref x4) (C := RX11) (T := TX11) (N := 11) hx hb hg inG11 hown hK hP 0 rfl rfl 4 (by decide) (hg _ wd_443) (fun _ h9 => h9) rfl dX11_keepDebtParts_24 ?_
        refine pg_get (D := D) (ci := 7) (v := .ref v12_0) (C := RX7) (T := TX7) (N := 6) hx hb hg inG7 hown hK hP i4.1 hM12 rfl 0 (by decide) (hg _ wd_447) (fun _ h9 => h9) rfl dX11_keepDebtParts_27 ?_
        refine lv_iload_n hx hb dX11_keepDebtParts_30 rfl (lv_at hl 0 rfl) ?_
        obtain ⟨f16, hM16, hf16⟩ := hW.open_64 h12_0
        have hi_17 : vp_in (nI v2w8) 100 := (inbN v2w8 100 (by omega) (by omega))
        refine pg_aldq hx hb hK hP h12_0.1 8 hM16 rfl hi_17 dX11_keepDebtParts_31 ?_
        obtain ⟨q_18, ho_19⟩ : ∃ q : Option Nat, q = f16 ((nI v2w8) : Int32).toNatClampNeg := ⟨_, rfl⟩
        rw [← ho_19]
        have hq_20 : iskN K L q_18 9 0 := by rw [ho_19]; exact hf16 _ (vp_lt hi_17)
        rcases q_18 with _ | bq_18
        · have hz := rfl (a := 0)
          refine lv_astore_nN (lv' := [(3, .null), (2, .int (nI v2w8)), (1, .int v1w8), (0, .ref xa)]) hx hb dX11_keepDebtParts_32 rfl hl (by decide) rfl (fun ls hl => ?_)
          refine lv_aload_nN hx hb dX11_keepDebtParts_33 rfl (lv_at hl 0 rfl) ?_
          refine lv_ifnullN (tgt := 82) hx hb dX11_keepDebtParts_34 (by decide) ?_
          refine lv_iinc (v := (nI (v2w8 + 1))) (lv' := [(2, .int (nI (v2w8 + 1))), (3, .null), (1, .int v1w8), (0, .ref xa)]) hx hb dX11_keepDebtParts_82 hl (k := 1) rfl (nI_1 v2w8) (by decide) rfl (fun ls hl => ?_)
          refine lv_goto (tgt := 12) hx hb dX11_keepDebtParts_85 (by decide) ?_
          exact ih_6 v1w8 (v2w8 + 1) M_10 H_11 _ _ (by omega) (by omega) hW hF hP hD hS (lv_sub hl [0, 2, 3] rfl)
        · have hb_21 := hq_20 bq_18 rfl
          refine lv_astore_n (lv' := [(3, .ref bq_18), (2, .int (nI v2w8)), (1, .int v1w8), (0, .ref xa)]) hx hb dX11_keepDebtParts_32 rfl hl (by decide) rfl (fun ls hl => ?_)
          refine lv_aload_n hx hb dX11_keepDebtParts_33 rfl (lv_at hl 0 rfl) ?_
          refine lv_ifnull hx hb dX11_keepDebtParts_34 ?_
          refine lv_aload_n hx hb dX11_keepDebtParts_37 rfl (lv_at hl 0 rfl) ?_
          obtain ⟨v22_0, v22_1, v22_2, v22_3, v22_4, v22_5, v22_6, v22_7, v22_8, v22_9, v22_10, v22_11, v22_12, v22_13, v22_14, v22_15, hM22, h22_0, h22_1, h22_4, h22_8⟩ := hW.open_9 hb_21
          refine pg_get (D := D) (ci := 9) (v := .int (nI v22_0)) (C := RX9) (T := TX9) (N := 16) hx hb hg inG9 hown hK hP hb_21.1 hM22 rfl 0 (by decide) (hg _ wd_370) (fun _ h9 => h9) rfl dX11_keepDebtParts_38 ?_
          refine lv_bipush (v := 24) hx hb dX11_keepDebtParts_41 (by decide) ?_
          refine lv_icmp_ge (tgt := 82) hx hb dX11_keepDebtParts_43 (by decide) (fun c_23 => ?_) (fun c_23 => ?_)
          · have hz := rfl (a := 0)
            have n_24 : 24 ≤ v22_0 := (iLE (a := 24) (b := v22_0) (by omega) (by omega)).mp c_23
            refine lv_iinc (v := (nI (v2w8 + 1))) (lv' := [(2, .int (nI (v2w8 + 1))), (3, .ref bq_18), (1, .int v1w8), (0, .ref xa)]) hx hb dX11_keepDebtParts_82 hl (k := 1) rfl (nI_1 v2w8) (by decide) rfl (fun ls hl => ?_)
            refine lv_goto (tgt := 12) hx hb dX11_keepDebtParts_85 (by decide) ?_
            exact ih_6 v1w8 (v2w8 + 1) M_10 H_11 _ _ (by omega) (by omega) hW hF hP hD hS (lv_sub hl [0, 2, 3] rfl)
          · have hz := rfl (a := 0)
            have n_25 : ¬ (24 ≤ v22_0) := fun q => c_23 ((iLE (a := 24) (b := v22_0) (by omega) (by omega)).mpr q)
            refine lv_aload_n hx hb dX11_keepDebtParts_46 rfl (lv_at hl 3 rfl) ?_
            refine va_get (D := D) (ci := 11) (v := .ref x4) (C := RX11) (T := TX11) (N := 11) hx hb hg inG11 hown hK hP 0 rfl rfl 4 (by decide) (hg _ wd_443) (fun _ h9 => h9) rfl dX11_keepDebtParts_47 ?_
            refine pg_get (D := D) (ci := 7) (v := .ref v12_2) (C := RX7) (T := TX7) (N := 6) hx hb hg inG7 hown hK hP i4.1 hM12 rfl 2 (by decide) (hg _ wd_449) (fun _ h9 => h9) rfl dX11_keepDebtParts_50 ?_
            refine lv_iload_n hx hb dX11_keepDebtParts_53 rfl (lv_at hl 1 rfl) ?_
            obtain ⟨f26, hM26⟩ := hW.open_69 h12_2
            refine pg_lald hx hb hK hP h12_2.1 1 hM26 rfl (inbN v2w8 100 (by omega) (by omega)) dX11_keepDebtParts_54 ?_
            refine lv_topl (fun f_27 ef_27 => ?_)
            refine lv_lconst (v := 0) hx hb dX11_keepDebtParts_55 (by decide) ?_
            refine W.lcmp hx hb dX11_keepDebtParts_56 ?_
            refine lv_if_le (tgt := 82) hx hb dX11_keepDebtParts_57 (by decide) (fun c_28 => ?_) (fun c_28 => ?_)
            · have hz := rfl (a := 0)
              have d_29 : f_27 ≤ 0 := lc_let c_28
              refine lv_iinc (v := (nI (v2w8 + 1))) (lv' := [(2, .int (nI (v2w8 + 1))), (3, .ref bq_18), (1, .int v1w8), (0, .ref xa)]) hx hb dX11_keepDebtParts_82 hl (k := 1) rfl (nI_1 v2w8) (by decide) rfl (fun ls hl => ?_)
              refine lv_goto (tgt := 12) hx hb dX11_keepDebtParts_85 (by decide) ?_
              exact ih_6 v1w8 (v2w8 + 1) M_10 H_11 _ _ (by omega) (by omega) hW hF hP hD hS (lv_sub hl [0, 2, 3] rfl)
            · have hz := rfl (a := 0)
              have d_29 : ¬ f_27 ≤ 0 := lc_lef c_28
              refine lv_aload_n hx hb dX11_keepDebtParts_60 rfl (lv_at hl 3 rfl) ?_
              refine va_get (D := D) (ci := 11) (v := .ref x6) (C := RX11) (T := TX11) (N := 11) hx hb hg inG11 hown hK hP 0 rfl rfl 6 (by decide) (hg _ wd_475) (fun _ h9 => h9) rfl dX11_keepDebtParts_61 ?_
              refine lv_aload_n hx hb dX11_keepDebtParts_64 rfl (lv_at hl 0 rfl) ?_
              refine pg_get (D := D) (ci := 9) (v := .int (nI v22_0)) (C := RX9) (T := TX9) (N := 16) hx hb hg inG9 hown hK hP hb_21.1 hM22 rfl 0 (by decide) (hg _ wd_370) (fun _ h9 => h9) rfl dX11_keepDebtParts_65 ?_
              refine lv_aload_n hx hb dX11_keepDebtParts_68 rfl (lv_at hl 3 rfl) ?_
              refine va_get (D := D) (ci := 11) (v := .ref x4) (C := RX11) (T := TX11) (N := 11) hx hb hg inG11 hown hK hP 0 rfl rfl 4 (by decide) (hg _ wd_443) (fun _ h9 => h9) rfl dX11_keepDebtParts_69 ?_
              refine pg_get (D := D) (ci := 7) (v := .ref v12_2) (C := RX7) (T := TX7) (N := 6) hx hb hg inG7 hown hK hP i4.1 hM12 rfl 2 (by decide) (hg _ wd_449) (fun _ h9 => h9) rfl dX11_keepDebtParts_72 ?_
              refine lv_iload_n hx hb dX11_keepDebtParts_75 rfl (lv_at hl 1 rfl) ?_
              refine pg_lald hx hb hK hP h12_2.1 1 hM26 rfl (inbN v2w8 100 (by omega) (by omega)) dX11_keepDebtParts_76 ?_
              refine lv_topl (fun f_30 ef_30 => ?_)
              refine lv_l2i hx hb dX11_keepDebtParts_77 rfl ?_
              refine lv_topi (fun f_31 ef_31 => ?_)
              obtain ⟨f32, hM32⟩ := hW.open_60 i6
              refine pg_iast hx hb hK hP hD hS i6.1 0 hM32 rfl (inbN v22_0 24 (by omega) (by omega)) dX11_keepDebtParts_78 (fun H_33 locs hP hD hS => ?_)
              obtain ⟨M_34, eM_34⟩ : ∃ M1 : Hp, M1 = va_up M_10 x6 (.inl (cy 14, 24, .inl (upd f32 ((nI v22_0) : Int32).toNatClampNeg f_31))) := ⟨_, rfl⟩
              have hP : va_P D vwCl ([(xa, (b11_1 x0 (nI x1) x2 (nI x3) x4 x5 x6 x7 x8 x9 x10))] ++ va_pl L M_34) H_33 := by rw [eM_34]; exact hP
              have hD : va_D A ([(xa, (b11_1 x0 (nI x1) x2 (nI x3) x4 x5 x6 x7 x8 x9 x10))] ++ va_pl L M_34) := by rw [eM_34]; exact hD
              have hW : WOK cy K L M_34 := by rw [eM_34]; exact hW.up_60 i6 ⟨_, rfl⟩
              have hF : fr K L [60] M M_34 := by rw [eM_34]; exact hF.up i6 (by decide)
              have hM_35 : M_34 x6 = .inl (cy 14, 24, .inl (upd f32 ((nI v22_0) : Int32).toNatClampNeg f_31)) := by rw [eM_34]; exact va_up_self _ _ _
              have hM_36 : M_34 x4 = (b7_8 v12_0 v12_1 v12_2 v12_3 v12_4 (nI v12_5)) := by rw [eM_34, va_up_ne _ _ (i4.neT i6 (by decide))]; exact hM12
              have hM_37 : M_34 v12_0 = .inl (cy 22, 100, .inr (.inr (.inr (.inr (f16))))) := by rw [eM_34, va_up_ne _ _ (h12_0.neT i6 (by decide))]; exact hM16
              have hM_38 : M_34 bq_18 = (b9_9 (nI v22_0) v22_1 v22_2 v22_3 v22_4 v22_5 v22_6 v22_7 v22_8 v22_9 v22_10 v22_11 v22_12 v22_13 v22_14 v22_15) := by rw [eM_34, va_up_ne _ _ (hb_21.neT i6 (by decide))]; exact hM22
              have hM_39 : M_34 v12_2 = .inl (cy 15, 100, .inr (.inl (f26))) := by rw [eM_34, va_up_ne _ _ (h12_2.neT i6 (by decide))]; exact hM26
              obtain ⟨f_40, ef_40⟩ : ∃ f : Nat → Int32, f = upd f32 ((nI v22_0) : Int32).toNatClampNeg f_31 := ⟨_, rfl⟩
              rw [← ef_40] at hM_35
              clear ef_40
              refine lv_iinc (v := (v1w8 + 1)) (lv' := [(1, .int (v1w8 + 1)), (3, .ref bq_18), (2, .int (nI v2w8)), (0, .ref xa)]) hx hb dX11_keepDebtParts_79 hl (k := 2) rfl rfl (by decide) rfl (fun ls hl => ?_)
              refine lv_iinc (v := (nI (v2w8 + 1))) (lv' := [(2, .int (nI (v2w8 + 1))), (1, .int (v1w8 + 1)), (3, .ref bq_18), (0, .ref xa)]) hx hb dX11_keepDebtParts_82 hl (k := 2) rfl (nI_1 v2w8) (by decide) rfl (fun ls hl => ?_)
              refine lv_goto (tgt := 12) hx hb dX11_keepDebtParts_85 (by decide) ?_
              exact ih_6 (v1w8 + 1) (v2w8 + 1) M_34 H_33 _ _ (by omega) (by omega) hW hF hP hD hS (lv_sub hl [0, 1, 3] rfl)
  exact key_5 (100 - 0 + 1) 0 0 M_3 H_1 _ _ (by omega) (by omega) hW hF hP hD hS (lv_sub hl [0, 1, 2] rfl)
set_option maxHeartbeats 4000000 in
set_option maxRecDepth 100000 in
theorem s_X11_bear (l : Launch) (D : va_G) (cy : Nat → ClassId) (K : Kp) (L : List Nat) (M : Hp) (sz : Nat) (xa : Nat) (x0 : Nat) (x1 : Nat) (x2 : Nat) (x3 : Nat) (x4 : Nat) (x5 : Nat) (x6 : Nat) (x7 : Int32) (x8 : Nat) (x9 : Int32) (x10 : Int32) (k1 : Int32) (k2 : Int32) (k3 : Int32) (hW : WOK cy K L M) (i0 : isk K L x0 17 8) (b1 : x1 ≤ 8) (i2 : isk K L x2 19 40) (b3 : x3 ≤ 40) (i4 : isk K L x4 7 0) (i5 : isk K L x5 5 0) (i6 : isk K L x6 60 24) (i8 : isk K L x8 73 25) : Met l yX11_bear (wsM yX11_bear cX11_bear 5 (some .int)) ({ frames := 3, cells := 0, slots := 0, locals := 82 }) (va_Pc [.ref xa, .int k1, .int k2, .int k3] (PG D cy [(xa, (b11_1 x0 (nI x1) x2 (nI x3) x4 x5 x6 x7 x8 x9 x10))] L M sz)) (va_Qi (fun (r : Int32) (M9 : Hp) => WOK cy K L M9 ∧ fr K L [7, 60, 64, 68, 69, 70, 71] M M9 ∧ (True)) (fun M9 t => ∃ (w7 : Int32) (w9 : Int32), PQ D [(xa, (b11_1 x0 (nI x1) x2 (nI x3) x4 x5 x6 w7 x8 w9 (-1)))] L M9 (va_A ([(xa, (b11_1 x0 (nI x1) x2 (nI x3) x4 x5 x6 x7 x8 x9 x10))] ++ va_pl L M) sz) t) (va_A ([(xa, (b11_1 x0 (nI x1) x2 (nI x3) x4 x5 x6 x7 x8 x9 x10))] ++ va_pl L M) sz)) 0 0 (va_A ([(xa, (b11_1 x0 (nI x1) x2 (nI x3) x4 x5 x6 x7 x8 x9 x10))] ++ va_pl L M) sz) := by
  refine Met.ofW (cc := cX11_bear) (maxL := 5) (ret := (some .int)) (by decide) rfl ?_
  intro p e s m args below meth c s₁ B hml hv
  obtain ⟨rfl, hsz, hP, hK, hD0, hN⟩ := hv
  have hx := B.exec
  have hb := B.bytes
  have hr := B.returns
  have hts := atoms_spec (ws := (wsM yX11_bear cX11_bear 5 (some .int))) B.pre
  have hg : ∀ w ∈ lw_good, w.before _ s = true := fun w h => hts w (List.mem_cons_of_mem _ h)
  have hown : s.vm.findClass RX11 = some m.cls := findClass_of_methodNamed B.named
  have hlocks := B.notSynchronized
  subst hsz
  have hD := hD0.self (sz := s.heap.size)
  generalize hAe : va_A ([(xa, (b11_1 x0 (nI x1) x2 (nI x3) x4 x5 x6 x7 x8 x9 x10))] ++ va_pl L M) s.heap.size = A at hD ⊢
  have hA : ∀ q : Nat, s.heap.size ≤ q → A q := fun q h => by rw [← hAe]; exact Or.inr h
  have hS : va_S A s.heap s.heap [] := va_S.rf
  have hl := lv_entry ([.ref xa, .int k1, .int k2, .int k3]) (n := 5) (Nat.le_of_ble_eq_true rfl)
  rw [lg_entry_eq]
  generalize (lg_sl ([.ref xa, .int k1, .int k2, .int k3]) ++ List.replicate (5 - (lg_sl ([.ref xa, .int k1, .int k2, .int k3])).length) Slot.unset).toArray = ls at hl ⊢
  refine W.nameQ (fun Q hQ => ?_)
  refine W.nameR (fun R hR => ?_)
  have hRf : 3 ≤ R.frames := by rw [hR]; exact Nat.le_of_ble_eq_true rfl
  have hRl : 82 ≤ R.locals := by rw [hR]; exact Nat.le_of_ble_eq_true rfl
  have hRc : 0 ≤ R.cells := by rw [hR]; exact Nat.le_of_ble_eq_true rfl
  have hRs : 0 ≤ R.slots := by rw [hR]; exact Nat.le_of_ble_eq_true rfl
  have hF : fr K L [7, 60, 64, 68, 69, 70, 71] M M := fr.rf
  have hl : lv_has ls 5 [(0, .ref xa), (1, .int k1), (2, .int k2), (3, .int k3)] := hl
  refine lv_aload_n hx hb dX11_bear_0 rfl (lv_at hl 0 rfl) ?_
  refine lv_iload_n hx hb dX11_bear_1 rfl (lv_at hl 1 rfl) ?_
  have hPc : va_P D vwCl ([(xa, (b11_1 x0 (nI x1) x2 (nI x3) x4 x5 x6 x7 x8 x9 x10))] ++ va_pl L M) s.heap := hP
  have hDc : va_D A ([(xa, (b11_1 x0 (nI x1) x2 (nI x3) x4 x5 x6 x7 x8 x9 x10))] ++ va_pl L M) := hD
  have hFc : ∀ q, va_A ([(xa, (b11_1 x0 (nI x1) x2 (nI x3) x4 x5 x6 x7 x8 x9 x10))] ++ va_pl L M) s.heap.size q → A q := pg_free hDc hS hA
  refine va_callq (va_runV (As := [.int k1]) (rest := []) ⟨hx, hb, hml, hown, hg⟩ (s_X11_houseAt l D cy K L M s.heap.size xa x0 x1 x2 x3 x4 x5 x6 x7 x8 x9 x10 k1  hW i0 b1 i2 b3 i4 i5 i6 i8) (cwV 1 hg (gV wd_340 wd_341 wd_342 wd_3 wd_343) rfl rfl rfl (by decide +kernel) ⟨(Nat.le_trans (Nat.le_of_ble_eq_true rfl) hRf), (Nat.le_trans (Nat.le_of_ble_eq_true rfl) hRl)⟩) ⟨PG.blind, va_recv hK hP (ci := 11) (q0 := 0) rfl rfl, fun U hU hW => ⟨rfl, PG.at hPc hK hDc hN hU hW⟩⟩ rfl rfl hl.1 rfl (lv_room (Nat.le_of_ble_eq_true rfl)) dX11_bear_2 ⟨(Nat.le_trans (Nat.le_of_ble_eq_true rfl) hRc), (Nat.le_trans (Nat.le_of_ble_eq_true rfl) hRs)⟩) hS (fun q _ h => hFc q h) hFc (fun r_2 M_3 t H_1 locs ht hvm hw hB hz1 hk1 hS => ?_)
  have hp_4 := hw
  obtain ⟨hP1, hD1⟩ := hB
  rw [ht] at hP1
  have hP : va_P D vwCl ([(xa, (b11_1 x0 (nI x1) x2 (nI x3) x4 x5 x6 x7 x8 x9 x10))] ++ va_pl L M) H_1 := hP1
  have hD : va_D A ([(xa, (b11_1 x0 (nI x1) x2 (nI x3) x4 x5 x6 x7 x8 x9 x10))] ++ va_pl L M) := hD1.mono hFc
  rcases r_2 with _ | b_5
  · have hz := rfl (a := 0)
    refine lv_astoreN (lv' := [(4, .null), (0, .ref xa), (1, .int k1), (2, .int k2), (3, .int k3)]) hx hb dX11_bear_5 hl (by decide) rfl (fun ls hl => ?_)
    refine lv_aloadN hx hb dX11_bear_7 (lv_at hl 0 rfl) ?_
    refine lv_ifnullN (tgt := 20) hx hb dX11_bear_9 (by decide) ?_
    refine lv_aload_n hx hb dX11_bear_20 rfl (lv_at hl 1 rfl) ?_
    refine lv_iconst (v := 1) hx hb dX11_bear_21 (by decide) ?_
    have hPc := hP.sub (ws' := [(xa, (b11_1 x0 (nI x1) x2 (nI x3) x4 x5 x6 x7 x8 x9 x10))]) [0] rfl
    have hDc := hD.sub (ws' := [(xa, (b11_1 x0 (nI x1) x2 (nI x3) x4 x5 x6 x7 x8 x9 x10))]) [0] (by decide) rfl
    have hKc := hK.sub (tys' := []) [] rfl
    have hFc := va_free (wc := [(xa, (b11_1 x0 (nI x1) x2 (nI x3) x4 x5 x6 x7 x8 x9 x10))]) hD hS hA [0] rfl
    refine va_calli (va_runV (As := [.int 1]) (rest := []) ⟨hx, hb, hml, hown, hg⟩ (k_refuse l D H_1.size xa x0 (nI x1) x2 (nI x3) x4 x5 x6 x7 x8 x9 x10 1) (cwV 1 hg (gV wd_344 wd_345 wd_346 wd_3 wd_347) rfl rfl rfl (by decide +kernel) ⟨(Nat.le_trans (Nat.le_of_ble_eq_true rfl) hRf), (Nat.le_trans (Nat.le_of_ble_eq_true rfl) hRl)⟩) ⟨Pr.blind, va_recv hK hP (ci := 11) (q0 := 0) rfl rfl, fun U hU hW => ⟨rfl, Pr.at hPc hKc hDc hN hU hW⟩⟩ rfl rfl hl.1 rfl (lv_room (Nat.le_of_ble_eq_true rfl)) dX11_bear_22 ⟨(Nat.le_trans (Nat.le_of_ble_eq_true rfl) hRc), (Nat.le_trans (Nat.le_of_ble_eq_true rfl) hRs)⟩) hS (fun q _ h => hFc q h) hFc (fun r_7 M_8 t H_6 locs ht hvm hw hB hz1 hk1 hS => ?_)
    have hp_9 := hw
    obtain ⟨hP1, hK1, hD1⟩ := hB
    rw [ht] at hP1
    obtain ⟨hP, hD⟩ := va_joinQ (X := [(xa, (b11_1 x0 (nI x1) x2 (nI x3) x4 x5 x6 x7 x8 x9 x10))]) (cx := [(xa, (b11_1 x0 (nI x1) x2 (nI x3) x4 x5 x6 x7 x8 x9 x10))]) (wr := []) (w1 := [(xa, (b11_1 x0 (nI x1) x2 (nI x3) x4 x5 x6 x7 x8 1 (-1)))]) (pl := va_pl L M) hP hD [0] [] rfl rfl (by decide) (by decide) hk1 hFc hP1 hD1
    have hP : va_P D vwCl ([(xa, (b11_1 x0 (nI x1) x2 (nI x3) x4 x5 x6 x7 x8 1 (-1)))] ++ va_pl L M) H_6 := hP
    have hD : va_D A ([(xa, (b11_1 x0 (nI x1) x2 (nI x3) x4 x5 x6 x7 x8 1 (-1)))] ++ va_pl L M) := hD
    have hq := Eq.symm hp_9
    subst hq
    rw [hQ]
    exact W.iret (v := (-1)) hx hb hr (fun t ht hW9 => ⟨⟨(-1), M, rfl, ⟨hW, hF, trivial⟩, ⟨x7, 1, by rw [ht]; exact hP, hD⟩⟩, hS.F ht⟩) hS.2.2 dX11_bear_25
  · have hb_10 := hp_4 b_5 rfl
    refine lv_astore (lv' := [(4, .ref b_5), (0, .ref xa), (1, .int k1), (2, .int k2), (3, .int k3)]) hx hb dX11_bear_5 hl (by decide) rfl (fun ls hl => ?_)
    refine lv_aload hx hb dX11_bear_7 (lv_at hl 0 rfl) ?_
    refine lv_ifnull hx hb dX11_bear_9 ?_
    refine lv_aload hx hb dX11_bear_12 (lv_at hl 0 rfl) ?_
    obtain ⟨v11_0, v11_1, v11_2, v11_3, v11_4, v11_5, v11_6, v11_7, v11_8, v11_9, v11_10, v11_11, v11_12, v11_13, v11_14, v11_15, v11_16, v11_17, v11_18, v11_19, hM11, h11_3, h11_4, h11_5, h11_6, h11_7, h11_8, h11_9, h11_10, h11_11, h11_12, h11_13, h11_16, h11_17, h11_18, h11_19⟩ := hW.open_2 hb_10
    refine pg_get (D := D) (ci := 2) (v := .int (nI v11_11)) (C := RX2) (T := TX2) (N := 20) hx hb hg inG2 hown hK hP hb_10.1 hM11 rfl 11 (by decide) (hg _ wd_442) (fun _ h9 => h9) rfl dX11_bear_14 ?_
    refine lv_if_ne (tgt := 26) hx hb dX11_bear_17 (by decide) (fun c_12 => ?_) (fun c_12 => ?_)
    · have hz := rfl (a := 0)
      have n_13 : ¬ (v11_11 = 0) := fun q => c_12 ((iEQ (a := v11_11) (b := 0) (by omega) (by omega)).mpr q)
      refine lv_iload_n hx hb dX11_bear_26 rfl (lv_at hl 4 rfl) ?_
      have hPc : va_P D vwCl ([] ++ va_pl L M) H_1 := hP.part (cx := []) [] rfl
      have hDc : va_D A ([] ++ va_pl L M) := hD.part (cx := []) [] (by decide) rfl
      have hFc : ∀ q, va_A ([] ++ va_pl L M) H_1.size q → A q := pg_free hDc hS hA
      refine va_calli (va_runS (As := [.int k3]) (rest := []) ⟨hx, hb, hml, hown, hg⟩ (s_X11_isSum l D cy K L M H_1.size k3  hW ) (va_cwS 1 hg (gS wd_384 wd_385 wd_3 wd_386) rfl rfl rfl (by decide +kernel) ⟨(Nat.le_trans (Nat.le_of_ble_eq_true rfl) hRf), (Nat.le_trans (Nat.le_of_ble_eq_true rfl) hRl)⟩) ⟨PG.blind, fun U hU hW => ⟨rfl, PG.at hPc hK hDc hN hU hW⟩⟩ rfl rfl hl.1 rfl (lv_room (Nat.le_of_ble_eq_true rfl)) dX11_bear_27 ⟨(Nat.le_trans (Nat.le_of_ble_eq_true rfl) hRc), (Nat.le_trans (Nat.le_of_ble_eq_true rfl) hRs)⟩) hS (fun q _ h => hFc q h) hFc (fun r_15 M_16 t H_14 locs ht hvm hw hB hz1 hk1 hS => ?_)
      have hp_17 := hw
      obtain ⟨hP1, hD1⟩ := hB
      rw [ht] at hP1
      obtain ⟨hP, hD⟩ := va_joinP (X := [(xa, (b11_1 x0 (nI x1) x2 (nI x3) x4 x5 x6 x7 x8 x9 x10))]) (cx := []) (wr := [(xa, (b11_1 x0 (nI x1) x2 (nI x3) x4 x5 x6 x7 x8 x9 x10))]) (rx := []) (pl := va_pl L M) (pl1 := va_pl L M) hP hD [] [0] rfl rfl (by decide) (by decide) hk1 hFc hP1 hD1
      have hP : va_P D vwCl ([(xa, (b11_1 x0 (nI x1) x2 (nI x3) x4 x5 x6 x7 x8 x9 x10))] ++ va_pl L M) H_14 := hP
      have hD : va_D A ([(xa, (b11_1 x0 (nI x1) x2 (nI x3) x4 x5 x6 x7 x8 x9 x10))] ++ va_pl L M) := hD
      rcases hp_17 with rfl | rfl
      · have hz := rfl (a := 0)
        refine lv_if_ne (tgt := 39) hx hb dX11_bear_30 (by decide) (fun _ => ?_) (fun c_18 => absurd c_18 (by decide))
        refine lv_iload_n hx hb dX11_bear_39 rfl (lv_at hl 3 rfl) ?_
        refine lv_aload hx hb dX11_bear_40 (lv_at hl 0 rfl) ?_
        refine pg_get (D := D) (ci := 2) (v := .int v11_1) (C := RX2) (T := TX2) (N := 20) hx hb hg inG2 hown hK hP hb_10.1 hM11 rfl 1 (by decide) (hg _ wd_439) (fun _ h9 => h9) rfl dX11_bear_42 ?_
        refine lv_icmp_lt (tgt := 55) hx hb dX11_bear_45 (by decide) (fun c_19 => ?_) (fun c_19 => ?_)
        · have hz := rfl (a := 0)
          refine lv_aload_n hx hb dX11_bear_55 rfl (lv_at hl 1 rfl) ?_
          refine lv_iconst (v := 3) hx hb dX11_bear_56 (by decide) ?_
          have hPc := hP.sub (ws' := [(xa, (b11_1 x0 (nI x1) x2 (nI x3) x4 x5 x6 x7 x8 x9 x10))]) [0] rfl
          have hDc := hD.sub (ws' := [(xa, (b11_1 x0 (nI x1) x2 (nI x3) x4 x5 x6 x7 x8 x9 x10))]) [0] (by decide) rfl
          have hKc := hK.sub (tys' := []) [] rfl
          have hFc := va_free (wc := [(xa, (b11_1 x0 (nI x1) x2 (nI x3) x4 x5 x6 x7 x8 x9 x10))]) hD hS hA [0] rfl
          refine va_calli (va_runV (As := [.int 3]) (rest := []) ⟨hx, hb, hml, hown, hg⟩ (k_refuse l D H_14.size xa x0 (nI x1) x2 (nI x3) x4 x5 x6 x7 x8 x9 x10 3) (cwV 1 hg (gV wd_344 wd_345 wd_346 wd_3 wd_347) rfl rfl rfl (by decide +kernel) ⟨(Nat.le_trans (Nat.le_of_ble_eq_true rfl) hRf), (Nat.le_trans (Nat.le_of_ble_eq_true rfl) hRl)⟩) ⟨Pr.blind, va_recv hK hP (ci := 11) (q0 := 0) rfl rfl, fun U hU hW => ⟨rfl, Pr.at hPc hKc hDc hN hU hW⟩⟩ rfl rfl hl.1 rfl (lv_room (Nat.le_of_ble_eq_true rfl)) dX11_bear_57 ⟨(Nat.le_trans (Nat.le_of_ble_eq_true rfl) hRc), (Nat.le_trans (Nat.le_of_ble_eq_true rfl) hRs)⟩) hS (fun q _ h => hFc q h) hFc (fun r_21 M_22 t H_20 locs ht hvm hw hB hz1 hk1 hS => ?_)
          have hp_23 := hw
          obtain ⟨hP1, hK1, hD1⟩ := hB
          rw [ht] at hP1
          obtain ⟨hP, hD⟩ := va_joinQ (X := [(xa, (b11_1 x0 (nI x1) x2 (nI x3) x4 x5 x6 x7 x8 x9 x10))]) (cx := [(xa, (b11_1 x0 (nI x1) x2 (nI x3) x4 x5 x6 x7 x8 x9 x10))]) (wr := []) (w1 := [(xa, (b11_1 x0 (nI x1) x2 (nI x3) x4 x5 x6 x7 x8 3 (-1)))]) (pl := va_pl L M) hP hD [0] [] rfl rfl (by decide) (by decide) hk1 hFc hP1 hD1
          have hP : va_P D vwCl ([(xa, (b11_1 x0 (nI x1) x2 (nI x3) x4 x5 x6 x7 x8 3 (-1)))] ++ va_pl L M) H_20 := hP
          have hD : va_D A ([(xa, (b11_1 x0 (nI x1) x2 (nI x3) x4 x5 x6 x7 x8 3 (-1)))] ++ va_pl L M) := hD
          have hq := Eq.symm hp_23
          subst hq
          rw [hQ]
          exact W.iret (v := (-1)) hx hb hr (fun t ht hW9 => ⟨⟨(-1), M, rfl, ⟨hW, hF, trivial⟩, ⟨x7, 3, by rw [ht]; exact hP, hD⟩⟩, hS.F ht⟩) hS.2.2 dX11_bear_60
        · have hz := rfl (a := 0)
          refine lv_iload_n hx hb dX11_bear_48 rfl (lv_at hl 3 rfl) ?_
          refine lv_sipush (v := 999) hx hb dX11_bear_49 (by decide) ?_
          refine lv_icmp_le (tgt := 61) hx hb dX11_bear_52 (by decide) (fun c_24 => ?_) (fun c_24 => ?_)
          · have hz := rfl (a := 0)
            refine lv_aload_n hx hb dX11_bear_61 rfl (lv_at hl 1 rfl) ?_
            refine lv_aload hx hb dX11_bear_62 (lv_at hl 0 rfl) ?_
            refine lv_iload_n hx hb dX11_bear_64 rfl (lv_at hl 3 rfl) ?_
            have hPc : va_P D vwCl ([(xa, (b11_1 x0 (nI x1) x2 (nI x3) x4 x5 x6 x7 x8 x9 x10))] ++ va_pl L M) H_14 := hP
            have hDc : va_D A ([(xa, (b11_1 x0 (nI x1) x2 (nI x3) x4 x5 x6 x7 x8 x9 x10))] ++ va_pl L M) := hD
            have hFc : ∀ q, va_A ([(xa, (b11_1 x0 (nI x1) x2 (nI x3) x4 x5 x6 x7 x8 x9 x10))] ++ va_pl L M) H_14.size q → A q := pg_free hDc hS hA
            refine va_callv (va_runV (As := [.ref b_5, .int k2]) (rest := []) ⟨hx, hb, hml, hown, hg⟩ (s_X11_gatherBearers l D cy K L M H_14.size xa x0 x1 x2 x3 x4 x5 x6 x7 x8 x9 x10 b_5 k2  hW i0 b1 i2 b3 i4 i5 i6 i8 hb_10) (cwV 2 hg (gV wd_477 wd_478 wd_479 wd_3 wd_480) rfl rfl rfl (by decide +kernel) ⟨(Nat.le_trans (Nat.le_of_ble_eq_true rfl) hRf), (Nat.le_trans (Nat.le_of_ble_eq_true rfl) hRl)⟩) ⟨PG.blind, va_recv hK hP (ci := 11) (q0 := 0) rfl rfl, fun U hU hW => ⟨rfl, PG.at hPc hK hDc hN hU hW⟩⟩ rfl rfl hl.1 rfl (lv_room (Nat.le_of_ble_eq_true rfl)) dX11_bear_65 ⟨(Nat.le_trans (Nat.le_of_ble_eq_true rfl) hRc), (Nat.le_trans (Nat.le_of_ble_eq_true rfl) hRs)⟩) hS (fun q _ h => hFc q h) hFc (fun M_27 t H_25 locs ht hvm hw hB hz1 hk1 hS => ?_)
            obtain ⟨hW, hF2, hp_28⟩ := hw
            obtain ⟨hP1, hD1⟩ := hB
            rw [ht] at hP1
            have hP : va_P D vwCl ([(xa, (b11_1 x0 (nI x1) x2 (nI x3) x4 x5 x6 x7 x8 x9 x10))] ++ va_pl L M_27) H_25 := hP1
            have hD : va_D A ([(xa, (b11_1 x0 (nI x1) x2 (nI x3) x4 x5 x6 x7 x8 x9 x10))] ++ va_pl L M_27) := hD1.mono hFc
            have hM_29 : M_27 b_5 = (b2_2 v11_0 v11_1 v11_2 v11_3 (nI v11_4) (nI v11_5) v11_6 v11_7 v11_8 (nI v11_9) v11_10 (nI v11_11) v11_12 v11_13 v11_14 v11_15 v11_16 v11_17 v11_18 v11_19) := (hF2.at hb_10 (by decide)).trans hM11
            have hF : fr K L [7, 60, 64, 68, 69, 70, 71] M M_27 := hF.tr hF2 (by decide)
            refine lv_aload_n hx hb dX11_bear_68 rfl (lv_at hl 1 rfl) ?_
            refine lv_aload_n hx hb dX11_bear_69 rfl (lv_at hl 1 rfl) ?_
            refine va_get (D := D) (ci := 11) (v := .ref x4) (C := RX11) (T := TX11) (N := 11) hx hb hg inG11 hown hK hP 0 rfl rfl 4 (by decide) (hg _ wd_443) (fun _ h9 => h9) rfl dX11_bear_70 ?_
            refine lv_iload_n hx hb dX11_bear_73 rfl (lv_at hl 4 rfl) ?_
            refine lv_i2l hx hb dX11_bear_74 rfl ?_
            refine lv_topl (fun f_30 ef_30 => ?_)
            obtain ⟨v31_0, v31_1, v31_2, v31_3, v31_4, v31_5, hM31, h31_0, h31_1, h31_2, h31_3, h31_4, h31_5⟩ := hW.open_7 i4
            have hPc : va_P D vwCl ([] ++ va_pl L M_27) H_25 := hP.part (cx := []) [] rfl
            have hDc : va_D A ([] ++ va_pl L M_27) := hD.part (cx := []) [] (by decide) rfl
            have hFc : ∀ q, va_A ([] ++ va_pl L M_27) H_25.size q → A q := pg_free hDc hS hA
            refine va_calll (va_runV (As := [.long f_30]) (rest := [.ref xa]) ⟨hx, hb, hml, hown, hg⟩ (s_X7_shareLoss l D cy K L M_27 H_25.size x4 f_30  hW i4) (cwV 1 hg (gV wd_481 wd_246 wd_247 wd_148 wd_248) rfl rfl rfl (by decide +kernel) ⟨(Nat.le_trans (Nat.le_of_ble_eq_true rfl) hRf), (Nat.le_trans (Nat.le_of_ble_eq_true rfl) hRl)⟩) ⟨PG.blind, pg_recv hK hP i4.1 hM31 rfl, fun U hU hW => ⟨rfl, PG.at hPc hK hDc hN hU hW⟩⟩ rfl rfl hl.1 rfl (lv_room (Nat.le_of_ble_eq_true rfl)) dX11_bear_75 ⟨(Nat.le_trans (Nat.le_of_ble_eq_true rfl) hRc), (Nat.le_trans (Nat.le_of_ble_eq_true rfl) hRs)⟩) hS (fun q _ h => hFc q h) hFc (fun r_33 M_34 t H_32 locs ht hvm hw hB hz1 hk1 hS => ?_)
            obtain ⟨hW, hF2, hp_35⟩ := hw
            obtain ⟨hP1, hD1⟩ := hB
            rw [ht] at hP1
            obtain ⟨hP, hD⟩ := va_joinP (X := [(xa, (b11_1 x0 (nI x1) x2 (nI x3) x4 x5 x6 x7 x8 x9 x10))]) (cx := []) (wr := [(xa, (b11_1 x0 (nI x1) x2 (nI x3) x4 x5 x6 x7 x8 x9 x10))]) (rx := []) (pl := va_pl L M_27) (pl1 := va_pl L M_34) hP hD [] [0] rfl rfl (by decide) (by decide) hk1 hFc hP1 hD1
            have hP : va_P D vwCl ([(xa, (b11_1 x0 (nI x1) x2 (nI x3) x4 x5 x6 x7 x8 x9 x10))] ++ va_pl L M_34) H_32 := hP
            have hD : va_D A ([(xa, (b11_1 x0 (nI x1) x2 (nI x3) x4 x5 x6 x7 x8 x9 x10))] ++ va_pl L M_34) := hD
            have hM_36 : M_34 b_5 = (b2_2 v11_0 v11_1 v11_2 v11_3 (nI v11_4) (nI v11_5) v11_6 v11_7 v11_8 (nI v11_9) v11_10 (nI v11_11) v11_12 v11_13 v11_14 v11_15 v11_16 v11_17 v11_18 v11_19) := (hF2.at hb_10 (by decide)).trans hM_29
            have hM_37 : M_34 x4 = (b7_8 v31_0 v31_1 v31_2 v31_3 v31_4 (nI v31_5)) := (hF2.at i4 (by decide)).trans hM31
            have hF : fr K L [7, 60, 64, 68, 69, 70, 71] M M_34 := hF.tr hF2 (by decide)
            refine lv_l2i hx hb dX11_bear_78 rfl ?_
            refine lv_topi (fun f_38 ef_38 => ?_)
            refine va_put (D := D) (ci := 11) (v := .int f_38) (ty := .int) (C := RX11) (T := TX11) (N := 11) hx hb hg inG11 tyX11 tyX11_ok nmX11 hown hK hP hD hS 0 rfl rfl 7 (by decide) (hg _ wd_482) (fun _ h9 => h9) rfl (by decide +kernel) rfl rfl (Nat.le_of_ble_eq_true rfl) dX11_bear_79 (fun H_39 locs hP hD hS => ?_)
            have hP : va_P D vwCl ([(xa, (b11_1 x0 (nI x1) x2 (nI x3) x4 x5 x6 f_38 x8 x9 x10))] ++ va_pl L M_34) H_39 := hP
            have hD : va_D A ([(xa, (b11_1 x0 (nI x1) x2 (nI x3) x4 x5 x6 f_38 x8 x9 x10))] ++ va_pl L M_34) := hD
            refine lv_aload_n hx hb dX11_bear_82 rfl (lv_at hl 1 rfl) ?_
            refine lv_aload_n hx hb dX11_bear_83 rfl (lv_at hl 1 rfl) ?_
            have hPc : va_P D vwCl ([(xa, (b11_1 x0 (nI x1) x2 (nI x3) x4 x5 x6 f_38 x8 x9 x10))] ++ va_pl L M_34) H_39 := hP
            have hDc : va_D A ([(xa, (b11_1 x0 (nI x1) x2 (nI x3) x4 x5 x6 f_38 x8 x9 x10))] ++ va_pl L M_34) := hD
            have hFc : ∀ q, va_A ([(xa, (b11_1 x0 (nI x1) x2 (nI x3) x4 x5 x6 f_38 x8 x9 x10))] ++ va_pl L M_34) H_39.size q → A q := pg_free hDc hS hA
            refine va_calli (va_runV (As := []) (rest := [.ref xa]) ⟨hx, hb, hml, hown, hg⟩ (s_X11_keepDebtParts l D cy K L M_34 H_39.size xa x0 x1 x2 x3 x4 x5 x6 f_38 x8 x9 x10  hW i0 b1 i2 b3 i4 i5 i6 i8) (cwV 0 hg (gV wd_483 wd_484 wd_485 wd_3 wd_486) rfl rfl rfl (by decide +kernel) ⟨(Nat.le_trans (Nat.le_of_ble_eq_true rfl) hRf), (Nat.le_trans (Nat.le_of_ble_eq_true rfl) hRl)⟩) ⟨PG.blind, va_recv hK hP (ci := 11) (q0 := 0) rfl rfl, fun U hU hW => ⟨rfl, PG.at hPc hK hDc hN hU hW⟩⟩ rfl rfl hl.1 rfl (lv_room (Nat.le_of_ble_eq_true rfl)) dX11_bear_84 ⟨(Nat.le_trans (Nat.le_of_ble_eq_true rfl) hRc), (Nat.le_trans (Nat.le_of_ble_eq_true rfl) hRs)⟩) hS (fun q _ h => hFc q h) hFc (fun r_41 M_42 t H_40 locs ht hvm hw hB hz1 hk1 hS => ?_)
            obtain ⟨hW, hF2, hp_43⟩ := hw
            obtain ⟨hP1, hD1⟩ := hB
            rw [ht] at hP1
            have hP : va_P D vwCl ([(xa, (b11_1 x0 (nI x1) x2 (nI x3) x4 x5 x6 f_38 x8 x9 x10))] ++ va_pl L M_42) H_40 := hP1
            have hD : va_D A ([(xa, (b11_1 x0 (nI x1) x2 (nI x3) x4 x5 x6 f_38 x8 x9 x10))] ++ va_pl L M_42) := hD1.mono hFc
            have hM_44 : M_42 b_5 = (b2_2 v11_0 v11_1 v11_2 v11_3 (nI v11_4) (nI v11_5) v11_6 v11_7 v11_8 (nI v11_9) v11_10 (nI v11_11) v11_12 v11_13 v11_14 v11_15 v11_16 v11_17 v11_18 v11_19) := (hF2.at hb_10 (by decide)).trans hM_36
            have hM_45 : M_42 x4 = (b7_8 v31_0 v31_1 v31_2 v31_3 v31_4 (nI v31_5)) := (hF2.at i4 (by decide)).trans hM_37
            have hF : fr K L [7, 60, 64, 68, 69, 70, 71] M M_42 := hF.tr hF2 (by decide)
            have hPc := hP.sub (ws' := [(xa, (b11_1 x0 (nI x1) x2 (nI x3) x4 x5 x6 f_38 x8 x9 x10))]) [0] rfl
            have hDc := hD.sub (ws' := [(xa, (b11_1 x0 (nI x1) x2 (nI x3) x4 x5 x6 f_38 x8 x9 x10))]) [0] (by decide) rfl
            have hKc := hK.sub (tys' := []) [] rfl
            have hFc := va_free (wc := [(xa, (b11_1 x0 (nI x1) x2 (nI x3) x4 x5 x6 f_38 x8 x9 x10))]) hD hS hA [0] rfl
            refine va_calli (va_runV (As := [.int r_41]) (rest := []) ⟨hx, hb, hml, hown, hg⟩ (k_accept l D H_40.size xa x0 (nI x1) x2 (nI x3) x4 x5 x6 f_38 x8 x9 x10 r_41) (cwV 1 hg (gV wd_356 wd_357 wd_358 wd_3 wd_359) rfl rfl rfl (by decide +kernel) ⟨(Nat.le_trans (Nat.le_of_ble_eq_true rfl) hRf), (Nat.le_trans (Nat.le_of_ble_eq_true rfl) hRl)⟩) ⟨Pr.blind, va_recv hK hP (ci := 11) (q0 := 0) rfl rfl, fun U hU hW => ⟨rfl, Pr.at hPc hKc hDc hN hU hW⟩⟩ rfl rfl hl.1 rfl (lv_room (Nat.le_of_ble_eq_true rfl)) dX11_bear_87 ⟨(Nat.le_trans (Nat.le_of_ble_eq_true rfl) hRc), (Nat.le_trans (Nat.le_of_ble_eq_true rfl) hRs)⟩) hS (fun q _ h => hFc q h) hFc (fun r_47 M_48 t H_46 locs ht hvm hw hB hz1 hk1 hS => ?_)
            have hp_49 := hw
            obtain ⟨hP1, hK1, hD1⟩ := hB
            rw [ht] at hP1
            obtain ⟨hP, hD⟩ := va_joinQ (X := [(xa, (b11_1 x0 (nI x1) x2 (nI x3) x4 x5 x6 f_38 x8 x9 x10))]) (cx := [(xa, (b11_1 x0 (nI x1) x2 (nI x3) x4 x5 x6 f_38 x8 x9 x10))]) (wr := []) (w1 := [(xa, (b11_1 x0 (nI x1) x2 (nI x3) x4 x5 x6 f_38 x8 0 (-1)))]) (pl := va_pl L M_42) hP hD [0] [] rfl rfl (by decide) (by decide) hk1 hFc hP1 hD1
            have hP : va_P D vwCl ([(xa, (b11_1 x0 (nI x1) x2 (nI x3) x4 x5 x6 f_38 x8 0 (-1)))] ++ va_pl L M_42) H_46 := hP
            have hD : va_D A ([(xa, (b11_1 x0 (nI x1) x2 (nI x3) x4 x5 x6 f_38 x8 0 (-1)))] ++ va_pl L M_42) := hD
            have hq := Eq.symm hp_49
            subst hq
            rw [hQ]
            exact W.iret (v := r_41) hx hb hr (fun t ht hW9 => ⟨⟨r_41, M_42, rfl, ⟨hW, hF, trivial⟩, ⟨f_38, 0, by rw [ht]; exact hP, hD⟩⟩, hS.F ht⟩) hS.2.2 dX11_bear_90
          · have hz := rfl (a := 0)
            refine lv_aload_n hx hb dX11_bear_55 rfl (lv_at hl 1 rfl) ?_
            refine lv_iconst (v := 3) hx hb dX11_bear_56 (by decide) ?_
            have hPc := hP.sub (ws' := [(xa, (b11_1 x0 (nI x1) x2 (nI x3) x4 x5 x6 x7 x8 x9 x10))]) [0] rfl
            have hDc := hD.sub (ws' := [(xa, (b11_1 x0 (nI x1) x2 (nI x3) x4 x5 x6 x7 x8 x9 x10))]) [0] (by decide) rfl
            have hKc := hK.sub (tys' := []) [] rfl
            have hFc := va_free (wc := [(xa, (b11_1 x0 (nI x1) x2 (nI x3) x4 x5 x6 x7 x8 x9 x10))]) hD hS hA [0] rfl
            refine va_calli (va_runV (As := [.int 3]) (rest := []) ⟨hx, hb, hml, hown, hg⟩ (k_refuse l D H_14.size xa x0 (nI x1) x2 (nI x3) x4 x5 x6 x7 x8 x9 x10 3) (cwV 1 hg (gV wd_344 wd_345 wd_346 wd_3 wd_347) rfl rfl rfl (by decide +kernel) ⟨(Nat.le_trans (Nat.le_of_ble_eq_true rfl) hRf), (Nat.le_trans (Nat.le_of_ble_eq_true rfl) hRl)⟩) ⟨Pr.blind, va_recv hK hP (ci := 11) (q0 := 0) rfl rfl, fun U hU hW => ⟨rfl, Pr.at hPc hKc hDc hN hU hW⟩⟩ rfl rfl hl.1 rfl (lv_room (Nat.le_of_ble_eq_true rfl)) dX11_bear_57 ⟨(Nat.le_trans (Nat.le_of_ble_eq_true rfl) hRc), (Nat.le_trans (Nat.le_of_ble_eq_true rfl) hRs)⟩) hS (fun q _ h => hFc q h) hFc (fun r_51 M_52 t H_50 locs ht hvm hw hB hz1 hk1 hS => ?_)
            have hp_53 := hw
            obtain ⟨hP1, hK1, hD1⟩ := hB
            rw [ht] at hP1
            obtain ⟨hP, hD⟩ := va_joinQ (X := [(xa, (b11_1 x0 (nI x1) x2 (nI x3) x4 x5 x6 x7 x8 x9 x10))]) (cx := [(xa, (b11_1 x0 (nI x1) x2 (nI x3) x4 x5 x6 x7 x8 x9 x10))]) (wr := []) (w1 := [(xa, (b11_1 x0 (nI x1) x2 (nI x3) x4 x5 x6 x7 x8 3 (-1)))]) (pl := va_pl L M) hP hD [0] [] rfl rfl (by decide) (by decide) hk1 hFc hP1 hD1
            have hP : va_P D vwCl ([(xa, (b11_1 x0 (nI x1) x2 (nI x3) x4 x5 x6 x7 x8 3 (-1)))] ++ va_pl L M) H_50 := hP
            have hD : va_D A ([(xa, (b11_1 x0 (nI x1) x2 (nI x3) x4 x5 x6 x7 x8 3 (-1)))] ++ va_pl L M) := hD
            have hq := Eq.symm hp_53
            subst hq
            rw [hQ]
            exact W.iret (v := (-1)) hx hb hr (fun t ht hW9 => ⟨⟨(-1), M, rfl, ⟨hW, hF, trivial⟩, ⟨x7, 3, by rw [ht]; exact hP, hD⟩⟩, hS.F ht⟩) hS.2.2 dX11_bear_60
      · have hz := rfl (a := 0)
        refine lv_if_ne (tgt := 39) hx hb dX11_bear_30 (by decide) (fun c_54 => absurd c_54 (by decide)) (fun _ => ?_)
        refine lv_aload_n hx hb dX11_bear_33 rfl (lv_at hl 1 rfl) ?_
        refine lv_iconst (v := 2) hx hb dX11_bear_34 (by decide) ?_
        have hPc := hP.sub (ws' := [(xa, (b11_1 x0 (nI x1) x2 (nI x3) x4 x5 x6 x7 x8 x9 x10))]) [0] rfl
        have hDc := hD.sub (ws' := [(xa, (b11_1 x0 (nI x1) x2 (nI x3) x4 x5 x6 x7 x8 x9 x10))]) [0] (by decide) rfl
        have hKc := hK.sub (tys' := []) [] rfl
        have hFc := va_free (wc := [(xa, (b11_1 x0 (nI x1) x2 (nI x3) x4 x5 x6 x7 x8 x9 x10))]) hD hS hA [0] rfl
        refine va_calli (va_runV (As := [.int 2]) (rest := []) ⟨hx, hb, hml, hown, hg⟩ (k_refuse l D H_14.size xa x0 (nI x1) x2 (nI x3) x4 x5 x6 x7 x8 x9 x10 2) (cwV 1 hg (gV wd_344 wd_345 wd_346 wd_3 wd_347) rfl rfl rfl (by decide +kernel) ⟨(Nat.le_trans (Nat.le_of_ble_eq_true rfl) hRf), (Nat.le_trans (Nat.le_of_ble_eq_true rfl) hRl)⟩) ⟨Pr.blind, va_recv hK hP (ci := 11) (q0 := 0) rfl rfl, fun U hU hW => ⟨rfl, Pr.at hPc hKc hDc hN hU hW⟩⟩ rfl rfl hl.1 rfl (lv_room (Nat.le_of_ble_eq_true rfl)) dX11_bear_35 ⟨(Nat.le_trans (Nat.le_of_ble_eq_true rfl) hRc), (Nat.le_trans (Nat.le_of_ble_eq_true rfl) hRs)⟩) hS (fun q _ h => hFc q h) hFc (fun r_56 M_57 t H_55 locs ht hvm hw hB hz1 hk1 hS => ?_)
        have hp_58 := hw
        obtain ⟨hP1, hK1, hD1⟩ := hB
        rw [ht] at hP1
        obtain ⟨hP, hD⟩ := va_joinQ (X := [(xa, (b11_1 x0 (nI x1) x2 (nI x3) x4 x5 x6 x7 x8 x9 x10))]) (cx := [(xa, (b11_1 x0 (nI x1) x2 (nI x3) x4 x5 x6 x7 x8 x9 x10))]) (wr := []) (w1 := [(xa, (b11_1 x0 (nI x1) x2 (nI x3) x4 x5 x6 x7 x8 2 (-1)))]) (pl := va_pl L M) hP hD [0] [] rfl rfl (by decide) (by decide) hk1 hFc hP1 hD1
        have hP : va_P D vwCl ([(xa, (b11_1 x0 (nI x1) x2 (nI x3) x4 x5 x6 x7 x8 2 (-1)))] ++ va_pl L M) H_55 := hP
        have hD : va_D A ([(xa, (b11_1 x0 (nI x1) x2 (nI x3) x4 x5 x6 x7 x8 2 (-1)))] ++ va_pl L M) := hD
        have hq := Eq.symm hp_58
        subst hq
        rw [hQ]
        exact W.iret (v := (-1)) hx hb hr (fun t ht hW9 => ⟨⟨(-1), M, rfl, ⟨hW, hF, trivial⟩, ⟨x7, 2, by rw [ht]; exact hP, hD⟩⟩, hS.F ht⟩) hS.2.2 dX11_bear_38
    · have hz := rfl (a := 0)
      have n_59 : v11_11 = 0 := (iEQ (a := v11_11) (b := 0) (by omega) (by omega)).mp c_12
      refine lv_aload_n hx hb dX11_bear_20 rfl (lv_at hl 1 rfl) ?_
      refine lv_iconst (v := 1) hx hb dX11_bear_21 (by decide) ?_
      have hPc := hP.sub (ws' := [(xa, (b11_1 x0 (nI x1) x2 (nI x3) x4 x5 x6 x7 x8 x9 x10))]) [0] rfl
      have hDc := hD.sub (ws' := [(xa, (b11_1 x0 (nI x1) x2 (nI x3) x4 x5 x6 x7 x8 x9 x10))]) [0] (by decide) rfl
      have hKc := hK.sub (tys' := []) [] rfl
      have hFc := va_free (wc := [(xa, (b11_1 x0 (nI x1) x2 (nI x3) x4 x5 x6 x7 x8 x9 x10))]) hD hS hA [0] rfl
      refine va_calli (va_runV (As := [.int 1]) (rest := []) ⟨hx, hb, hml, hown, hg⟩ (k_refuse l D H_1.size xa x0 (nI x1) x2 (nI x3) x4 x5 x6 x7 x8 x9 x10 1) (cwV 1 hg (gV wd_344 wd_345 wd_346 wd_3 wd_347) rfl rfl rfl (by decide +kernel) ⟨(Nat.le_trans (Nat.le_of_ble_eq_true rfl) hRf), (Nat.le_trans (Nat.le_of_ble_eq_true rfl) hRl)⟩) ⟨Pr.blind, va_recv hK hP (ci := 11) (q0 := 0) rfl rfl, fun U hU hW => ⟨rfl, Pr.at hPc hKc hDc hN hU hW⟩⟩ rfl rfl hl.1 rfl (lv_room (Nat.le_of_ble_eq_true rfl)) dX11_bear_22 ⟨(Nat.le_trans (Nat.le_of_ble_eq_true rfl) hRc), (Nat.le_trans (Nat.le_of_ble_eq_true rfl) hRs)⟩) hS (fun q _ h => hFc q h) hFc (fun r_61 M_62 t H_60 locs ht hvm hw hB hz1 hk1 hS => ?_)
      have hp_63 := hw
      obtain ⟨hP1, hK1, hD1⟩ := hB
      rw [ht] at hP1
      obtain ⟨hP, hD⟩ := va_joinQ (X := [(xa, (b11_1 x0 (nI x1) x2 (nI x3) x4 x5 x6 x7 x8 x9 x10))]) (cx := [(xa, (b11_1 x0 (nI x1) x2 (nI x3) x4 x5 x6 x7 x8 x9 x10))]) (wr := []) (w1 := [(xa, (b11_1 x0 (nI x1) x2 (nI x3) x4 x5 x6 x7 x8 1 (-1)))]) (pl := va_pl L M) hP hD [0] [] rfl rfl (by decide) (by decide) hk1 hFc hP1 hD1
      have hP : va_P D vwCl ([(xa, (b11_1 x0 (nI x1) x2 (nI x3) x4 x5 x6 x7 x8 1 (-1)))] ++ va_pl L M) H_60 := hP
      have hD : va_D A ([(xa, (b11_1 x0 (nI x1) x2 (nI x3) x4 x5 x6 x7 x8 1 (-1)))] ++ va_pl L M) := hD
      have hq := Eq.symm hp_63
      subst hq
      rw [hQ]
      exact W.iret (v := (-1)) hx hb hr (fun t ht hW9 => ⟨⟨(-1), M, rfl, ⟨hW, hF, trivial⟩, ⟨x7, 1, by rw [ht]; exact hP, hD⟩⟩, hS.F ht⟩) hS.2.2 dX11_bear_25
set_option maxHeartbeats 4000000 in
set_option maxRecDepth 100000 in
theorem s_X11_borne (l : Launch) (D : va_G) (cy : Nat → ClassId) (K : Kp) (L : List Nat) (M : Hp) (sz : Nat) (xa : Nat) (x0 : Nat) (x1 : Nat) (x2 : Nat) (x3 : Nat) (x4 : Nat) (x5 : Nat) (x6 : Nat) (x7 : Int32) (x8 : Nat) (x9 : Int32) (x10 : Int32) (k1 : Int32) (hW : WOK cy K L M) (i0 : isk K L x0 17 8) (b1 : x1 ≤ 8) (i2 : isk K L x2 19 40) (b3 : x3 ≤ 40) (i4 : isk K L x4 7 0) (i5 : isk K L x5 5 0) (i6 : isk K L x6 60 24) (i8 : isk K L x8 73 25) : Met l yX11_borne (wsM yX11_borne cX11_borne 2 (some .int)) ({ frames := 0, cells := 0, slots := 0, locals := 0 }) (va_Pc [.ref xa, .int k1] (PG D cy [(xa, (b11_1 x0 (nI x1) x2 (nI x3) x4 x5 x6 x7 x8 x9 x10))] L M sz)) (va_Qi (fun (r : Int32) (_ : Unit) => True) (fun _ t => PQ D [(xa, (b11_1 x0 (nI x1) x2 (nI x3) x4 x5 x6 x7 x8 x9 x10))] L M (va_A ([(xa, (b11_1 x0 (nI x1) x2 (nI x3) x4 x5 x6 x7 x8 x9 x10))] ++ va_pl L M) sz) t) (va_A ([(xa, (b11_1 x0 (nI x1) x2 (nI x3) x4 x5 x6 x7 x8 x9 x10))] ++ va_pl L M) sz)) 0 0 (va_A ([(xa, (b11_1 x0 (nI x1) x2 (nI x3) x4 x5 x6 x7 x8 x9 x10))] ++ va_pl L M) sz) := by
  refine Met.ofW (cc := cX11_borne) (maxL := 2) (ret := (some .int)) (by decide) rfl ?_
  intro p e s m args below meth c s₁ B hml hv
  obtain ⟨rfl, hsz, hP, hK, hD0, hN⟩ := hv
  have hx := B.exec
  have hb := B.bytes
  have hr := B.returns
  have hts := atoms_spec (ws := (wsM yX11_borne cX11_borne 2 (some .int))) B.pre
  have hg : ∀ w ∈ lw_good, w.before _ s = true := fun w h => hts w (List.mem_cons_of_mem _ h)
  have hown : s.vm.findClass RX11 = some m.cls := findClass_of_methodNamed B.named
  have hlocks := B.notSynchronized
  subst hsz
  have hD := hD0.self (sz := s.heap.size)
  generalize hAe : va_A ([(xa, (b11_1 x0 (nI x1) x2 (nI x3) x4 x5 x6 x7 x8 x9 x10))] ++ va_pl L M) s.heap.size = A at hD ⊢
  have hA : ∀ q : Nat, s.heap.size ≤ q → A q := fun q h => by rw [← hAe]; exact Or.inr h
  have hS : va_S A s.heap s.heap [] := va_S.rf
  have hl := lv_entry ([.ref xa, .int k1]) (n := 2) (Nat.le_of_ble_eq_true rfl)
  rw [lg_entry_eq]
  generalize (lg_sl ([.ref xa, .int k1]) ++ List.replicate (2 - (lg_sl ([.ref xa, .int k1])).length) Slot.unset).toArray = ls at hl ⊢
  refine W.nameQ (fun Q hQ => ?_)
  refine W.nameR (fun R hR => ?_)
  have hRf : 0 ≤ R.frames := by rw [hR]; exact Nat.le_of_ble_eq_true rfl
  have hRl : 0 ≤ R.locals := by rw [hR]; exact Nat.le_of_ble_eq_true rfl
  have hRc : 0 ≤ R.cells := by rw [hR]; exact Nat.le_of_ble_eq_true rfl
  have hRs : 0 ≤ R.slots := by rw [hR]; exact Nat.le_of_ble_eq_true rfl
  have hl : lv_has ls 2 [(0, .ref xa), (1, .int k1)] := hl
  refine lv_iload_n hx hb dX11_borne_0 rfl (lv_at hl 1 rfl) ?_
  refine lv_iconst (v := (-1)) hx hb dX11_borne_1 (by decide) ?_
  refine lv_icmp_ne (tgt := 10) hx hb dX11_borne_2 (by decide) (fun c_1 => ?_) (fun c_1 => ?_)
  · have hz := rfl (a := 0)
    refine lv_iload_n hx hb dX11_borne_10 rfl (lv_at hl 1 rfl) ?_
    refine lv_if_lt (tgt := 29) hx hb dX11_borne_11 (by decide) (fun c_2 => ?_) (fun c_2 => ?_)
    · have hz := rfl (a := 0)
      refine lv_iconst (v := 0) hx hb dX11_borne_29 (by decide) ?_
      rw [hQ]
      exact W.iret (v := 0) hx hb hr (fun t ht hW9 => ⟨⟨0, (), rfl, trivial, ⟨by rw [ht]; exact hP, hD⟩⟩, hS.F ht⟩) hS.2.2 dX11_borne_30
    · have hz := rfl (a := 0)
      refine lv_iload_n hx hb dX11_borne_14 rfl (lv_at hl 1 rfl) ?_
      refine lv_bipush (v := 24) hx hb dX11_borne_15 (by decide) ?_
      refine lv_icmp_ge (tgt := 29) hx hb dX11_borne_17 (by decide) (fun c_3 => ?_) (fun c_3 => ?_)
      · have hz := rfl (a := 0)
        refine lv_iconst (v := 0) hx hb dX11_borne_29 (by decide) ?_
        rw [hQ]
        exact W.iret (v := 0) hx hb hr (fun t ht hW9 => ⟨⟨0, (), rfl, trivial, ⟨by rw [ht]; exact hP, hD⟩⟩, hS.F ht⟩) hS.2.2 dX11_borne_30
      · have hz := rfl (a := 0)
        refine lv_aload_n hx hb dX11_borne_20 rfl (lv_at hl 0 rfl) ?_
        refine va_get (D := D) (ci := 11) (v := .ref x6) (C := RX11) (T := TX11) (N := 11) hx hb hg inG11 hown hK hP 0 rfl rfl 6 (by decide) (hg _ wd_475) (fun _ h9 => h9) rfl dX11_borne_21 ?_
        refine lv_iload_n hx hb dX11_borne_24 rfl (lv_at hl 1 rfl) ?_
        obtain ⟨f4, hM4⟩ := hW.open_60 i6
        refine pg_iald hx hb hK hP i6.1 0 hM4 rfl (inb k1 24 (by omega) c_2 c_3) dX11_borne_25 ?_
        refine lv_topi (fun f_5 ef_5 => ?_)
        refine lv_goto (tgt := 30) hx hb dX11_borne_26 (by decide) ?_
        rw [hQ]
        exact W.iret (v := f_5) hx hb hr (fun t ht hW9 => ⟨⟨f_5, (), rfl, trivial, ⟨by rw [ht]; exact hP, hD⟩⟩, hS.F ht⟩) hS.2.2 dX11_borne_30
  · have hz := rfl (a := 0)
    refine lv_aload_n hx hb dX11_borne_5 rfl (lv_at hl 0 rfl) ?_
    refine va_get (D := D) (ci := 11) (v := .int x7) (C := RX11) (T := TX11) (N := 11) hx hb hg inG11 hown hK hP 0 rfl rfl 7 (by decide) (hg _ wd_482) (fun _ h9 => h9) rfl dX11_borne_6 ?_
    rw [hQ]
    exact W.iret (v := x7) hx hb hr (fun t ht hW9 => ⟨⟨x7, (), rfl, trivial, ⟨by rw [ht]; exact hP, hD⟩⟩, hS.F ht⟩) hS.2.2 dX11_borne_9
set_option maxHeartbeats 4000000 in
set_option maxRecDepth 100000 in
theorem s_X11_account (l : Launch) (D : va_G) (cy : Nat → ClassId) (K : Kp) (L : List Nat) (M : Hp) (sz : Nat) (xa : Nat) (x0 : Nat) (x1 : Nat) (x2 : Nat) (x3 : Nat) (x4 : Nat) (x5 : Nat) (x6 : Nat) (x7 : Int32) (x8 : Nat) (x9 : Int32) (x10 : Int32) (k1 : Int32) (k2 : Int32) (k3 : Int32) (hW : WOK cy K L M) (i0 : isk K L x0 17 8) (b1 : x1 ≤ 8) (i2 : isk K L x2 19 40) (b3 : x3 ≤ 40) (i4 : isk K L x4 7 0) (i5 : isk K L x5 5 0) (i6 : isk K L x6 60 24) (i8 : isk K L x8 73 25) : Met l yX11_account (wsM yX11_account cX11_account 6 (some .long)) ({ frames := 1, cells := 0, slots := 0, locals := 21 }) (va_Pc [.ref xa, .int k1, .int k2, .int k3] (PG D cy [(xa, (b11_1 x0 (nI x1) x2 (nI x3) x4 x5 x6 x7 x8 x9 x10))] L M sz)) (va_Ql (fun (r : Int64) (_ : Unit) => True) (fun _ t => PQ D [(xa, (b11_1 x0 (nI x1) x2 (nI x3) x4 x5 x6 x7 x8 x9 x10))] L M (va_A ([(xa, (b11_1 x0 (nI x1) x2 (nI x3) x4 x5 x6 x7 x8 x9 x10))] ++ va_pl L M) sz) t) (va_A ([(xa, (b11_1 x0 (nI x1) x2 (nI x3) x4 x5 x6 x7 x8 x9 x10))] ++ va_pl L M) sz)) 0 0 (va_A ([(xa, (b11_1 x0 (nI x1) x2 (nI x3) x4 x5 x6 x7 x8 x9 x10))] ++ va_pl L M) sz) := by
  refine Met.ofW (cc := cX11_account) (maxL := 6) (ret := (some .long)) (by decide) rfl ?_
  intro p e s m args below meth c s₁ B hml hv
  obtain ⟨rfl, hsz, hP, hK, hD0, hN⟩ := hv
  have hx := B.exec
  have hb := B.bytes
  have hr := B.returns
  have hts := atoms_spec (ws := (wsM yX11_account cX11_account 6 (some .long))) B.pre
  have hg : ∀ w ∈ lw_good, w.before _ s = true := fun w h => hts w (List.mem_cons_of_mem _ h)
  have hown : s.vm.findClass RX11 = some m.cls := findClass_of_methodNamed B.named
  have hlocks := B.notSynchronized
  subst hsz
  have hD := hD0.self (sz := s.heap.size)
  generalize hAe : va_A ([(xa, (b11_1 x0 (nI x1) x2 (nI x3) x4 x5 x6 x7 x8 x9 x10))] ++ va_pl L M) s.heap.size = A at hD ⊢
  have hA : ∀ q : Nat, s.heap.size ≤ q → A q := fun q h => by rw [← hAe]; exact Or.inr h
  have hS : va_S A s.heap s.heap [] := va_S.rf
  have hl := lv_entry ([.ref xa, .int k1, .int k2, .int k3]) (n := 6) (Nat.le_of_ble_eq_true rfl)
  rw [lg_entry_eq]
  generalize (lg_sl ([.ref xa, .int k1, .int k2, .int k3]) ++ List.replicate (6 - (lg_sl ([.ref xa, .int k1, .int k2, .int k3])).length) Slot.unset).toArray = ls at hl ⊢
  refine W.nameQ (fun Q hQ => ?_)
  refine W.nameR (fun R hR => ?_)
  have hRf : 1 ≤ R.frames := by rw [hR]; exact Nat.le_of_ble_eq_true rfl
  have hRl : 21 ≤ R.locals := by rw [hR]; exact Nat.le_of_ble_eq_true rfl
  have hRc : 0 ≤ R.cells := by rw [hR]; exact Nat.le_of_ble_eq_true rfl
  have hRs : 0 ≤ R.slots := by rw [hR]; exact Nat.le_of_ble_eq_true rfl
  have hl : lv_has ls 6 [(0, .ref xa), (1, .int k1), (2, .int k2), (3, .int k3)] := hl
  refine lv_aload_n hx hb dX11_account_0 rfl (lv_at hl 0 rfl) ?_
  refine lv_iload_n hx hb dX11_account_1 rfl (lv_at hl 1 rfl) ?_
  have hPc : va_P D vwCl ([(xa, (b11_1 x0 (nI x1) x2 (nI x3) x4 x5 x6 x7 x8 x9 x10))] ++ va_pl L M) s.heap := hP
  have hDc : va_D A ([(xa, (b11_1 x0 (nI x1) x2 (nI x3) x4 x5 x6 x7 x8 x9 x10))] ++ va_pl L M) := hD
  have hFc : ∀ q, va_A ([(xa, (b11_1 x0 (nI x1) x2 (nI x3) x4 x5 x6 x7 x8 x9 x10))] ++ va_pl L M) s.heap.size q → A q := pg_free hDc hS hA
  refine va_callq (va_runV (As := [.int k1]) (rest := []) ⟨hx, hb, hml, hown, hg⟩ (s_X11_houseAt l D cy K L M s.heap.size xa x0 x1 x2 x3 x4 x5 x6 x7 x8 x9 x10 k1  hW i0 b1 i2 b3 i4 i5 i6 i8) (cwV 1 hg (gV wd_340 wd_341 wd_342 wd_3 wd_343) rfl rfl rfl (by decide +kernel) ⟨(Nat.le_trans (Nat.le_of_ble_eq_true rfl) hRf), (Nat.le_trans (Nat.le_of_ble_eq_true rfl) hRl)⟩) ⟨PG.blind, va_recv hK hP (ci := 11) (q0 := 0) rfl rfl, fun U hU hW => ⟨rfl, PG.at hPc hK hDc hN hU hW⟩⟩ rfl rfl hl.1 rfl (lv_room (Nat.le_of_ble_eq_true rfl)) dX11_account_2 ⟨(Nat.le_trans (Nat.le_of_ble_eq_true rfl) hRc), (Nat.le_trans (Nat.le_of_ble_eq_true rfl) hRs)⟩) hS (fun q _ h => hFc q h) hFc (fun r_2 M_3 t H_1 locs ht hvm hw hB hz1 hk1 hS => ?_)
  have hp_4 := hw
  obtain ⟨hP1, hD1⟩ := hB
  rw [ht] at hP1
  have hP : va_P D vwCl ([(xa, (b11_1 x0 (nI x1) x2 (nI x3) x4 x5 x6 x7 x8 x9 x10))] ++ va_pl L M) H_1 := hP1
  have hD : va_D A ([(xa, (b11_1 x0 (nI x1) x2 (nI x3) x4 x5 x6 x7 x8 x9 x10))] ++ va_pl L M) := hD1.mono hFc
  rcases r_2 with _ | b_5
  · have hz := rfl (a := 0)
    refine lv_astoreN (lv' := [(4, .null), (0, .ref xa), (1, .int k1), (2, .int k2), (3, .int k3)]) hx hb dX11_account_5 hl (by decide) rfl (fun ls hl => ?_)
    refine lv_aloadN hx hb dX11_account_7 (lv_at hl 0 rfl) ?_
    refine lv_ifnonnullN hx hb dX11_account_9 ?_
    refine lv_null hx hb dX11_account_12 ?_
    refine lv_goto (tgt := 22) hx hb dX11_account_13 (by decide) ?_
    refine lv_astoreN (lv' := [(5, .null), (4, .null), (0, .ref xa), (1, .int k1), (2, .int k2), (3, .int k3)]) hx hb dX11_account_22 hl (by decide) rfl (fun ls hl => ?_)
    refine lv_aloadN hx hb dX11_account_24 (lv_at hl 0 rfl) ?_
    refine lv_ifnonnullN hx hb dX11_account_26 ?_
    refine lv_lconst (v := 0) hx hb dX11_account_29 (by decide) ?_
    refine lv_goto (tgt := 39) hx hb dX11_account_30 (by decide) ?_
    rw [hQ]
    exact W.lret (v := 0) hx hb hr (fun t ht hW9 => ⟨⟨0, (), rfl, trivial, ⟨by rw [ht]; exact hP, hD⟩⟩, hS.F ht⟩) hS.2.2 dX11_account_39
  · have hb_6 := hp_4 b_5 rfl
    refine lv_astore (lv' := [(4, .ref b_5), (0, .ref xa), (1, .int k1), (2, .int k2), (3, .int k3)]) hx hb dX11_account_5 hl (by decide) rfl (fun ls hl => ?_)
    refine lv_aload hx hb dX11_account_7 (lv_at hl 0 rfl) ?_
    refine lv_ifnonnull (tgt := 16) hx hb dX11_account_9 (by decide) ?_
    refine lv_aload hx hb dX11_account_16 (lv_at hl 0 rfl) ?_
    refine lv_iload_n hx hb dX11_account_18 rfl (lv_at hl 3 rfl) ?_
    obtain ⟨v7_0, v7_1, v7_2, v7_3, v7_4, v7_5, v7_6, v7_7, v7_8, v7_9, v7_10, v7_11, v7_12, v7_13, v7_14, v7_15, v7_16, v7_17, v7_18, v7_19, hM7, h7_3, h7_4, h7_5, h7_6, h7_7, h7_8, h7_9, h7_10, h7_11, h7_12, h7_13, h7_16, h7_17, h7_18, h7_19⟩ := hW.open_2 hb_6
    have hPc : va_P D vwCl ([] ++ va_pl L M) H_1 := hP.part (cx := []) [] rfl
    have hDc : va_D A ([] ++ va_pl L M) := hD.part (cx := []) [] (by decide) rfl
    have hFc : ∀ q, va_A ([] ++ va_pl L M) H_1.size q → A q := pg_free hDc hS hA
    refine va_callq (va_runV (As := [.int k2]) (rest := []) ⟨hx, hb, hml, hown, hg⟩ (s_X2_tenureAt l D cy K L M H_1.size b_5 k2  hW hb_6) (cwV 1 hg (gV wd_405 wd_55 wd_56 wd_57 wd_58) rfl rfl rfl (by decide +kernel) ⟨(Nat.le_trans (Nat.le_of_ble_eq_true rfl) hRf), (Nat.le_trans (Nat.le_of_ble_eq_true rfl) hRl)⟩) ⟨PG.blind, pg_recv hK hP hb_6.1 hM7 rfl, fun U hU hW => ⟨rfl, PG.at hPc hK hDc hN hU hW⟩⟩ rfl rfl hl.1 rfl (lv_room (Nat.le_of_ble_eq_true rfl)) dX11_account_19 ⟨(Nat.le_trans (Nat.le_of_ble_eq_true rfl) hRc), (Nat.le_trans (Nat.le_of_ble_eq_true rfl) hRs)⟩) hS (fun q _ h => hFc q h) hFc (fun r_9 M_10 t H_8 locs ht hvm hw hB hz1 hk1 hS => ?_)
    have hp_11 := hw
    obtain ⟨hP1, hD1⟩ := hB
    rw [ht] at hP1
    obtain ⟨hP, hD⟩ := va_joinP (X := [(xa, (b11_1 x0 (nI x1) x2 (nI x3) x4 x5 x6 x7 x8 x9 x10))]) (cx := []) (wr := [(xa, (b11_1 x0 (nI x1) x2 (nI x3) x4 x5 x6 x7 x8 x9 x10))]) (rx := []) (pl := va_pl L M) (pl1 := va_pl L M) hP hD [] [0] rfl rfl (by decide) (by decide) hk1 hFc hP1 hD1
    have hP : va_P D vwCl ([(xa, (b11_1 x0 (nI x1) x2 (nI x3) x4 x5 x6 x7 x8 x9 x10))] ++ va_pl L M) H_8 := hP
    have hD : va_D A ([(xa, (b11_1 x0 (nI x1) x2 (nI x3) x4 x5 x6 x7 x8 x9 x10))] ++ va_pl L M) := hD
    rcases r_9 with _ | b_12
    · have hz := rfl (a := 0)
      refine lv_astoreN (lv' := [(5, .null), (4, .ref b_5), (0, .ref xa), (1, .int k1), (2, .int k2), (3, .int k3)]) hx hb dX11_account_22 hl (by decide) rfl (fun ls hl => ?_)
      refine lv_aloadN hx hb dX11_account_24 (lv_at hl 0 rfl) ?_
      refine lv_ifnonnullN hx hb dX11_account_26 ?_
      refine lv_lconst (v := 0) hx hb dX11_account_29 (by decide) ?_
      refine lv_goto (tgt := 39) hx hb dX11_account_30 (by decide) ?_
      rw [hQ]
      exact W.lret (v := 0) hx hb hr (fun t ht hW9 => ⟨⟨0, (), rfl, trivial, ⟨by rw [ht]; exact hP, hD⟩⟩, hS.F ht⟩) hS.2.2 dX11_account_39
    · have hb_13 := hp_11 b_12 rfl
      refine lv_astore (lv' := [(5, .ref b_12), (4, .ref b_5), (0, .ref xa), (1, .int k1), (2, .int k2), (3, .int k3)]) hx hb dX11_account_22 hl (by decide) rfl (fun ls hl => ?_)
      refine lv_aload hx hb dX11_account_24 (lv_at hl 0 rfl) ?_
      refine lv_ifnonnull (tgt := 33) hx hb dX11_account_26 (by decide) ?_
      refine lv_aload hx hb dX11_account_33 (lv_at hl 0 rfl) ?_
      refine lv_iload_n hx hb dX11_account_35 rfl (lv_at hl 5 rfl) ?_
      obtain ⟨v14_0, v14_1, v14_2, v14_3, v14_4, v14_5, v14_6, v14_7, v14_8, v14_9, v14_10, v14_11, v14_12, v14_13, v14_14, v14_15, hM14, h14_0, h14_1, h14_4, h14_8⟩ := hW.open_9 hb_13
      have hPc : va_P D vwCl ([] ++ va_pl L M) H_8 := hP.part (cx := []) [] rfl
      have hDc : va_D A ([] ++ va_pl L M) := hD.part (cx := []) [] (by decide) rfl
      have hFc : ∀ q, va_A ([] ++ va_pl L M) H_8.size q → A q := pg_free hDc hS hA
      refine va_calll (va_runV (As := [.int k3]) (rest := []) ⟨hx, hb, hml, hown, hg⟩ (s_X9_accountOf l D cy K L M H_8.size b_12 k3  hW hb_13) (cwV 1 hg (gV wd_487 wd_488 wd_489 wd_52 wd_490) rfl rfl rfl (by decide +kernel) ⟨(Nat.le_trans (Nat.le_of_ble_eq_true rfl) hRf), (Nat.le_trans (Nat.le_of_ble_eq_true rfl) hRl)⟩) ⟨PG.blind, pg_recv hK hP hb_13.1 hM14 rfl, fun U hU hW => ⟨rfl, PG.at hPc hK hDc hN hU hW⟩⟩ rfl rfl hl.1 rfl (lv_room (Nat.le_of_ble_eq_true rfl)) dX11_account_36 ⟨(Nat.le_trans (Nat.le_of_ble_eq_true rfl) hRc), (Nat.le_trans (Nat.le_of_ble_eq_true rfl) hRs)⟩) hS (fun q _ h => hFc q h) hFc (fun r_16 M_17 t H_15 locs ht hvm hw hB hz1 hk1 hS => ?_)
      have hp_18 := hw
      obtain ⟨hP1, hD1⟩ := hB
      rw [ht] at hP1
      obtain ⟨hP, hD⟩ := va_joinP (X := [(xa, (b11_1 x0 (nI x1) x2 (nI x3) x4 x5 x6 x7 x8 x9 x10))]) (cx := []) (wr := [(xa, (b11_1 x0 (nI x1) x2 (nI x3) x4 x5 x6 x7 x8 x9 x10))]) (rx := []) (pl := va_pl L M) (pl1 := va_pl L M) hP hD [] [0] rfl rfl (by decide) (by decide) hk1 hFc hP1 hD1
      have hP : va_P D vwCl ([(xa, (b11_1 x0 (nI x1) x2 (nI x3) x4 x5 x6 x7 x8 x9 x10))] ++ va_pl L M) H_15 := hP
      have hD : va_D A ([(xa, (b11_1 x0 (nI x1) x2 (nI x3) x4 x5 x6 x7 x8 x9 x10))] ++ va_pl L M) := hD
      rw [hQ]
      exact W.lret (v := r_16) hx hb hr (fun t ht hW9 => ⟨⟨r_16, (), rfl, trivial, ⟨by rw [ht]; exact hP, hD⟩⟩, hS.F ht⟩) hS.2.2 dX11_account_39
set_option maxHeartbeats 4000000 in
set_option maxRecDepth 100000 in
theorem s_X11_who (l : Launch) (D : va_G) (cy : Nat → ClassId) (K : Kp) (L : List Nat) (M : Hp) (sz : Nat) (xa : Nat) (x0 : Nat) (x1 : Nat) (x2 : Nat) (x3 : Nat) (x4 : Nat) (x5 : Nat) (x6 : Nat) (x7 : Int32) (x8 : Nat) (x9 : Int32) (x10 : Int32) (k1 : Int32) (k2 : Int32) (k3 : Int32) (hW : WOK cy K L M) (i0 : isk K L x0 17 8) (b1 : x1 ≤ 8) (i2 : isk K L x2 19 40) (b3 : x3 ≤ 40) (i4 : isk K L x4 7 0) (i5 : isk K L x5 5 0) (i6 : isk K L x6 60 24) (i8 : isk K L x8 73 25) : Met l yX11_who (wsM yX11_who cX11_who 6 (some .int)) ({ frames := 2, cells := 0, slots := 0, locals := 45 }) (va_Pc [.ref xa, .int k1, .int k2, .int k3] (PG D cy [(xa, (b11_1 x0 (nI x1) x2 (nI x3) x4 x5 x6 x7 x8 x9 x10))] L M sz)) (va_Qi (fun (r : Int32) (_ : Unit) => True) (fun _ t => PQ D [(xa, (b11_1 x0 (nI x1) x2 (nI x3) x4 x5 x6 x7 x8 x9 x10))] L M (va_A ([(xa, (b11_1 x0 (nI x1) x2 (nI x3) x4 x5 x6 x7 x8 x9 x10))] ++ va_pl L M) sz) t) (va_A ([(xa, (b11_1 x0 (nI x1) x2 (nI x3) x4 x5 x6 x7 x8 x9 x10))] ++ va_pl L M) sz)) 0 0 (va_A ([(xa, (b11_1 x0 (nI x1) x2 (nI x3) x4 x5 x6 x7 x8 x9 x10))] ++ va_pl L M) sz) := by
  refine Met.ofW (cc := cX11_who) (maxL := 6) (ret := (some .int)) (by decide) rfl ?_
  intro p e s m args below meth c s₁ B hml hv
  obtain ⟨rfl, hsz, hP, hK, hD0, hN⟩ := hv
  have hx := B.exec
  have hb := B.bytes
  have hr := B.returns
  have hts := atoms_spec (ws := (wsM yX11_who cX11_who 6 (some .int))) B.pre
  have hg : ∀ w ∈ lw_good, w.before _ s = true := fun w h => hts w (List.mem_cons_of_mem _ h)
  have hown : s.vm.findClass RX11 = some m.cls := findClass_of_methodNamed B.named
  have hlocks := B.notSynchronized
  subst hsz
  have hD := hD0.self (sz := s.heap.size)
  generalize hAe : va_A ([(xa, (b11_1 x0 (nI x1) x2 (nI x3) x4 x5 x6 x7 x8 x9 x10))] ++ va_pl L M) s.heap.size = A at hD ⊢
  have hA : ∀ q : Nat, s.heap.size ≤ q → A q := fun q h => by rw [← hAe]; exact Or.inr h
  have hS : va_S A s.heap s.heap [] := va_S.rf
  have hl := lv_entry ([.ref xa, .int k1, .int k2, .int k3]) (n := 6) (Nat.le_of_ble_eq_true rfl)
  rw [lg_entry_eq]
  generalize (lg_sl ([.ref xa, .int k1, .int k2, .int k3]) ++ List.replicate (6 - (lg_sl ([.ref xa, .int k1, .int k2, .int k3])).length) Slot.unset).toArray = ls at hl ⊢
  refine W.nameQ (fun Q hQ => ?_)
  refine W.nameR (fun R hR => ?_)
  have hRf : 2 ≤ R.frames := by rw [hR]; exact Nat.le_of_ble_eq_true rfl
  have hRl : 45 ≤ R.locals := by rw [hR]; exact Nat.le_of_ble_eq_true rfl
  have hRc : 0 ≤ R.cells := by rw [hR]; exact Nat.le_of_ble_eq_true rfl
  have hRs : 0 ≤ R.slots := by rw [hR]; exact Nat.le_of_ble_eq_true rfl
  have hl : lv_has ls 6 [(0, .ref xa), (1, .int k1), (2, .int k2), (3, .int k3)] := hl
  refine lv_aload_n hx hb dX11_who_0 rfl (lv_at hl 0 rfl) ?_
  refine lv_iload_n hx hb dX11_who_1 rfl (lv_at hl 1 rfl) ?_
  have hPc : va_P D vwCl ([(xa, (b11_1 x0 (nI x1) x2 (nI x3) x4 x5 x6 x7 x8 x9 x10))] ++ va_pl L M) s.heap := hP
  have hDc : va_D A ([(xa, (b11_1 x0 (nI x1) x2 (nI x3) x4 x5 x6 x7 x8 x9 x10))] ++ va_pl L M) := hD
  have hFc : ∀ q, va_A ([(xa, (b11_1 x0 (nI x1) x2 (nI x3) x4 x5 x6 x7 x8 x9 x10))] ++ va_pl L M) s.heap.size q → A q := pg_free hDc hS hA
  refine va_callq (va_runV (As := [.int k1]) (rest := []) ⟨hx, hb, hml, hown, hg⟩ (s_X11_houseAt l D cy K L M s.heap.size xa x0 x1 x2 x3 x4 x5 x6 x7 x8 x9 x10 k1  hW i0 b1 i2 b3 i4 i5 i6 i8) (cwV 1 hg (gV wd_340 wd_341 wd_342 wd_3 wd_343) rfl rfl rfl (by decide +kernel) ⟨(Nat.le_trans (Nat.le_of_ble_eq_true rfl) hRf), (Nat.le_trans (Nat.le_of_ble_eq_true rfl) hRl)⟩) ⟨PG.blind, va_recv hK hP (ci := 11) (q0 := 0) rfl rfl, fun U hU hW => ⟨rfl, PG.at hPc hK hDc hN hU hW⟩⟩ rfl rfl hl.1 rfl (lv_room (Nat.le_of_ble_eq_true rfl)) dX11_who_2 ⟨(Nat.le_trans (Nat.le_of_ble_eq_true rfl) hRc), (Nat.le_trans (Nat.le_of_ble_eq_true rfl) hRs)⟩) hS (fun q _ h => hFc q h) hFc (fun r_2 M_3 t H_1 locs ht hvm hw hB hz1 hk1 hS => ?_)
  have hp_4 := hw
  obtain ⟨hP1, hD1⟩ := hB
  rw [ht] at hP1
  have hP : va_P D vwCl ([(xa, (b11_1 x0 (nI x1) x2 (nI x3) x4 x5 x6 x7 x8 x9 x10))] ++ va_pl L M) H_1 := hP1
  have hD : va_D A ([(xa, (b11_1 x0 (nI x1) x2 (nI x3) x4 x5 x6 x7 x8 x9 x10))] ++ va_pl L M) := hD1.mono hFc
  rcases r_2 with _ | b_5
  · have hz := rfl (a := 0)
    refine lv_astoreN (lv' := [(4, .null), (0, .ref xa), (1, .int k1), (2, .int k2), (3, .int k3)]) hx hb dX11_who_5 hl (by decide) rfl (fun ls hl => ?_)
    refine lv_aloadN hx hb dX11_who_7 (lv_at hl 0 rfl) ?_
    refine lv_ifnullN (tgt := 26) hx hb dX11_who_9 (by decide) ?_
    refine lv_iconst (v := (-1)) hx hb dX11_who_26 (by decide) ?_
    rw [hQ]
    exact W.iret (v := (-1)) hx hb hr (fun t ht hW9 => ⟨⟨(-1), (), rfl, trivial, ⟨by rw [ht]; exact hP, hD⟩⟩, hS.F ht⟩) hS.2.2 dX11_who_27
  · have hb_6 := hp_4 b_5 rfl
    refine lv_astore (lv' := [(4, .ref b_5), (0, .ref xa), (1, .int k1), (2, .int k2), (3, .int k3)]) hx hb dX11_who_5 hl (by decide) rfl (fun ls hl => ?_)
    refine lv_aload hx hb dX11_who_7 (lv_at hl 0 rfl) ?_
    refine lv_ifnull hx hb dX11_who_9 ?_
    refine lv_iload_n hx hb dX11_who_12 rfl (lv_at hl 3 rfl) ?_
    have hPc : va_P D vwCl ([] ++ va_pl L M) H_1 := hP.part (cx := []) [] rfl
    have hDc : va_D A ([] ++ va_pl L M) := hD.part (cx := []) [] (by decide) rfl
    have hFc : ∀ q, va_A ([] ++ va_pl L M) H_1.size q → A q := pg_free hDc hS hA
    refine va_calli (va_runS (As := [.int k2]) (rest := []) ⟨hx, hb, hml, hown, hg⟩ (s_X11_isSeat l D cy K L M H_1.size k2  hW ) (va_cwS 1 hg (gS wd_348 wd_47 wd_3 wd_46) rfl rfl rfl (by decide +kernel) ⟨(Nat.le_trans (Nat.le_of_ble_eq_true rfl) hRf), (Nat.le_trans (Nat.le_of_ble_eq_true rfl) hRl)⟩) ⟨PG.blind, fun U hU hW => ⟨rfl, PG.at hPc hK hDc hN hU hW⟩⟩ rfl rfl hl.1 rfl (lv_room (Nat.le_of_ble_eq_true rfl)) dX11_who_13 ⟨(Nat.le_trans (Nat.le_of_ble_eq_true rfl) hRc), (Nat.le_trans (Nat.le_of_ble_eq_true rfl) hRs)⟩) hS (fun q _ h => hFc q h) hFc (fun r_8 M_9 t H_7 locs ht hvm hw hB hz1 hk1 hS => ?_)
    have hp_10 := hw
    obtain ⟨hP1, hD1⟩ := hB
    rw [ht] at hP1
    obtain ⟨hP, hD⟩ := va_joinP (X := [(xa, (b11_1 x0 (nI x1) x2 (nI x3) x4 x5 x6 x7 x8 x9 x10))]) (cx := []) (wr := [(xa, (b11_1 x0 (nI x1) x2 (nI x3) x4 x5 x6 x7 x8 x9 x10))]) (rx := []) (pl := va_pl L M) (pl1 := va_pl L M) hP hD [] [0] rfl rfl (by decide) (by decide) hk1 hFc hP1 hD1
    have hP : va_P D vwCl ([(xa, (b11_1 x0 (nI x1) x2 (nI x3) x4 x5 x6 x7 x8 x9 x10))] ++ va_pl L M) H_7 := hP
    have hD : va_D A ([(xa, (b11_1 x0 (nI x1) x2 (nI x3) x4 x5 x6 x7 x8 x9 x10))] ++ va_pl L M) := hD
    rcases hp_10 with ⟨rfl, c_11, c_12⟩ | rfl
    · have hz := rfl (a := 0)
      refine lv_if_eq (tgt := 26) hx hb dX11_who_16 (by decide) (fun c_13 => absurd c_13 (by decide)) (fun _ => ?_)
      refine lv_iload_n hx hb dX11_who_19 rfl (lv_at hl 4 rfl) ?_
      have hPc : va_P D vwCl ([] ++ va_pl L M) H_7 := hP.part (cx := []) [] rfl
      have hDc : va_D A ([] ++ va_pl L M) := hD.part (cx := []) [] (by decide) rfl
      have hFc : ∀ q, va_A ([] ++ va_pl L M) H_7.size q → A q := pg_free hDc hS hA
      refine va_calli (va_runS (As := [.int k3]) (rest := []) ⟨hx, hb, hml, hown, hg⟩ (s_X11_isDay l D cy K L M H_7.size k3  hW ) (va_cwS 1 hg (gS wd_495 wd_43 wd_3 wd_42) rfl rfl rfl (by decide +kernel) ⟨(Nat.le_trans (Nat.le_of_ble_eq_true rfl) hRf), (Nat.le_trans (Nat.le_of_ble_eq_true rfl) hRl)⟩) ⟨PG.blind, fun U hU hW => ⟨rfl, PG.at hPc hK hDc hN hU hW⟩⟩ rfl rfl hl.1 rfl (lv_room (Nat.le_of_ble_eq_true rfl)) dX11_who_20 ⟨(Nat.le_trans (Nat.le_of_ble_eq_true rfl) hRc), (Nat.le_trans (Nat.le_of_ble_eq_true rfl) hRs)⟩) hS (fun q _ h => hFc q h) hFc (fun r_15 M_16 t H_14 locs ht hvm hw hB hz1 hk1 hS => ?_)
      have hp_17 := hw
      obtain ⟨hP1, hD1⟩ := hB
      rw [ht] at hP1
      obtain ⟨hP, hD⟩ := va_joinP (X := [(xa, (b11_1 x0 (nI x1) x2 (nI x3) x4 x5 x6 x7 x8 x9 x10))]) (cx := []) (wr := [(xa, (b11_1 x0 (nI x1) x2 (nI x3) x4 x5 x6 x7 x8 x9 x10))]) (rx := []) (pl := va_pl L M) (pl1 := va_pl L M) hP hD [] [0] rfl rfl (by decide) (by decide) hk1 hFc hP1 hD1
      have hP : va_P D vwCl ([(xa, (b11_1 x0 (nI x1) x2 (nI x3) x4 x5 x6 x7 x8 x9 x10))] ++ va_pl L M) H_14 := hP
      have hD : va_D A ([(xa, (b11_1 x0 (nI x1) x2 (nI x3) x4 x5 x6 x7 x8 x9 x10))] ++ va_pl L M) := hD
      rcases hp_17 with ⟨rfl, c_18, c_19⟩ | rfl
      · have hz := rfl (a := 0)
        refine lv_if_ne (tgt := 28) hx hb dX11_who_23 (by decide) (fun _ => ?_) (fun c_20 => absurd c_20 (by decide))
        refine lv_aload hx hb dX11_who_28 (lv_at hl 0 rfl) ?_
        refine lv_iload_n hx hb dX11_who_30 rfl (lv_at hl 3 rfl) ?_
        refine lv_iload_n hx hb dX11_who_31 rfl (lv_at hl 4 rfl) ?_
        obtain ⟨v21_0, v21_1, v21_2, v21_3, v21_4, v21_5, v21_6, v21_7, v21_8, v21_9, v21_10, v21_11, v21_12, v21_13, v21_14, v21_15, v21_16, v21_17, v21_18, v21_19, hM21, h21_3, h21_4, h21_5, h21_6, h21_7, h21_8, h21_9, h21_10, h21_11, h21_12, h21_13, h21_16, h21_17, h21_18, h21_19⟩ := hW.open_2 hb_6
        have hPc : va_P D vwCl ([] ++ va_pl L M) H_14 := hP.part (cx := []) [] rfl
        have hDc : va_D A ([] ++ va_pl L M) := hD.part (cx := []) [] (by decide) rfl
        have hFc : ∀ q, va_A ([] ++ va_pl L M) H_14.size q → A q := pg_free hDc hS hA
        refine va_callq (va_runV (As := [.int k2, .int k3]) (rest := []) ⟨hx, hb, hml, hown, hg⟩ (s_X2_tenureIn l D cy K L M H_14.size b_5 k2 k3  hW hb_6) (cwV 2 hg (gV wd_450 wd_186 wd_187 wd_57 wd_188) rfl rfl rfl (by decide +kernel) ⟨(Nat.le_trans (Nat.le_of_ble_eq_true rfl) hRf), (Nat.le_trans (Nat.le_of_ble_eq_true rfl) hRl)⟩) ⟨PG.blind, pg_recv hK hP hb_6.1 hM21 rfl, fun U hU hW => ⟨rfl, PG.at hPc hK hDc hN hU hW⟩⟩ rfl rfl hl.1 rfl (lv_room (Nat.le_of_ble_eq_true rfl)) dX11_who_32 ⟨(Nat.le_trans (Nat.le_of_ble_eq_true rfl) hRc), (Nat.le_trans (Nat.le_of_ble_eq_true rfl) hRs)⟩) hS (fun q _ h => hFc q h) hFc (fun r_23 M_24 t H_22 locs ht hvm hw hB hz1 hk1 hS => ?_)
        have hp_25 := hw
        obtain ⟨hP1, hD1⟩ := hB
        rw [ht] at hP1
        obtain ⟨hP, hD⟩ := va_joinP (X := [(xa, (b11_1 x0 (nI x1) x2 (nI x3) x4 x5 x6 x7 x8 x9 x10))]) (cx := []) (wr := [(xa, (b11_1 x0 (nI x1) x2 (nI x3) x4 x5 x6 x7 x8 x9 x10))]) (rx := []) (pl := va_pl L M) (pl1 := va_pl L M) hP hD [] [0] rfl rfl (by decide) (by decide) hk1 hFc hP1 hD1
        have hP : va_P D vwCl ([(xa, (b11_1 x0 (nI x1) x2 (nI x3) x4 x5 x6 x7 x8 x9 x10))] ++ va_pl L M) H_22 := hP
        have hD : va_D A ([(xa, (b11_1 x0 (nI x1) x2 (nI x3) x4 x5 x6 x7 x8 x9 x10))] ++ va_pl L M) := hD
        rcases r_23 with _ | b_26
        · have hz := rfl (a := 0)
          refine lv_astoreN (lv' := [(5, .null), (4, .ref b_5), (0, .ref xa), (1, .int k1), (2, .int k2), (3, .int k3)]) hx hb dX11_who_35 hl (by decide) rfl (fun ls hl => ?_)
          refine lv_aloadN hx hb dX11_who_37 (lv_at hl 0 rfl) ?_
          refine lv_ifnonnullN hx hb dX11_who_39 ?_
          refine lv_iconst (v := (-1)) hx hb dX11_who_42 (by decide) ?_
          refine lv_goto (tgt := 51) hx hb dX11_who_43 (by decide) ?_
          rw [hQ]
          exact W.iret (v := (-1)) hx hb hr (fun t ht hW9 => ⟨⟨(-1), (), rfl, trivial, ⟨by rw [ht]; exact hP, hD⟩⟩, hS.F ht⟩) hS.2.2 dX11_who_51
        · have hb_27 := hp_25 b_26 rfl
          refine lv_astore (lv' := [(5, .ref b_26), (4, .ref b_5), (0, .ref xa), (1, .int k1), (2, .int k2), (3, .int k3)]) hx hb dX11_who_35 hl (by decide) rfl (fun ls hl => ?_)
          refine lv_aload hx hb dX11_who_37 (lv_at hl 0 rfl) ?_
          refine lv_ifnonnull (tgt := 46) hx hb dX11_who_39 (by decide) ?_
          refine lv_aload hx hb dX11_who_46 (lv_at hl 0 rfl) ?_
          obtain ⟨v28_0, v28_1, v28_2, v28_3, v28_4, v28_5, v28_6, v28_7, v28_8, v28_9, v28_10, v28_11, v28_12, v28_13, v28_14, v28_15, hM28, h28_0, h28_1, h28_4, h28_8⟩ := hW.open_9 hb_27
          refine pg_get (D := D) (ci := 9) (v := .int (nI v28_0)) (C := RX9) (T := TX9) (N := 16) hx hb hg inG9 hown hK hP hb_27.1 hM28 rfl 0 (by decide) (hg _ wd_370) (fun _ h9 => h9) rfl dX11_who_48 ?_
          rw [hQ]
          exact W.iret (v := (nI v28_0)) hx hb hr (fun t ht hW9 => ⟨⟨(nI v28_0), (), rfl, trivial, ⟨by rw [ht]; exact hP, hD⟩⟩, hS.F ht⟩) hS.2.2 dX11_who_51
      · have hz := rfl (a := 0)
        refine lv_if_ne (tgt := 28) hx hb dX11_who_23 (by decide) (fun c_29 => absurd c_29 (by decide)) (fun _ => ?_)
        refine lv_iconst (v := (-1)) hx hb dX11_who_26 (by decide) ?_
        rw [hQ]
        exact W.iret (v := (-1)) hx hb hr (fun t ht hW9 => ⟨⟨(-1), (), rfl, trivial, ⟨by rw [ht]; exact hP, hD⟩⟩, hS.F ht⟩) hS.2.2 dX11_who_27
    · have hz := rfl (a := 0)
      refine lv_if_eq (tgt := 26) hx hb dX11_who_16 (by decide) (fun _ => ?_) (fun c_30 => absurd c_30 (by decide))
      refine lv_iconst (v := (-1)) hx hb dX11_who_26 (by decide) ?_
      rw [hQ]
      exact W.iret (v := (-1)) hx hb hr (fun t ht hW9 => ⟨⟨(-1), (), rfl, trivial, ⟨by rw [ht]; exact hP, hD⟩⟩, hS.F ht⟩) hS.2.2 dX11_who_27
set_option maxHeartbeats 4000000 in
set_option maxRecDepth 100000 in
theorem s_X11_stretch (l : Launch) (D : va_G) (cy : Nat → ClassId) (K : Kp) (L : List Nat) (M : Hp) (sz : Nat) (xa : Nat) (x0 : Nat) (x1 : Nat) (x2 : Nat) (x3 : Nat) (x4 : Nat) (x5 : Nat) (x6 : Nat) (x7 : Int32) (x8 : Nat) (x9 : Int32) (x10 : Int32) (k1 : Int32) (k2 : Int32) (k3 : Int32) (hW : WOK cy K L M) (i0 : isk K L x0 17 8) (b1 : x1 ≤ 8) (i2 : isk K L x2 19 40) (b3 : x3 ≤ 40) (i4 : isk K L x4 7 0) (i5 : isk K L x5 5 0) (i6 : isk K L x6 60 24) (i8 : isk K L x8 73 25) : Met l yX11_stretch (wsM yX11_stretch cX11_stretch 6 (some .long)) ({ frames := 2, cells := 0, slots := 0, locals := 44 }) (va_Pc [.ref xa, .int k1, .int k2, .int k3] (PG D cy [(xa, (b11_1 x0 (nI x1) x2 (nI x3) x4 x5 x6 x7 x8 x9 x10))] L M sz)) (va_Ql (fun (r : Int64) (_ : Unit) => True) (fun _ t => PQ D [(xa, (b11_1 x0 (nI x1) x2 (nI x3) x4 x5 x6 x7 x8 x9 x10))] L M (va_A ([(xa, (b11_1 x0 (nI x1) x2 (nI x3) x4 x5 x6 x7 x8 x9 x10))] ++ va_pl L M) sz) t) (va_A ([(xa, (b11_1 x0 (nI x1) x2 (nI x3) x4 x5 x6 x7 x8 x9 x10))] ++ va_pl L M) sz)) 0 0 (va_A ([(xa, (b11_1 x0 (nI x1) x2 (nI x3) x4 x5 x6 x7 x8 x9 x10))] ++ va_pl L M) sz) := by
  refine Met.ofW (cc := cX11_stretch) (maxL := 6) (ret := (some .long)) (by decide) rfl ?_
  intro p e s m args below meth c s₁ B hml hv
  obtain ⟨rfl, hsz, hP, hK, hD0, hN⟩ := hv
  have hx := B.exec
  have hb := B.bytes
  have hr := B.returns
  have hts := atoms_spec (ws := (wsM yX11_stretch cX11_stretch 6 (some .long))) B.pre
  have hg : ∀ w ∈ lw_good, w.before _ s = true := fun w h => hts w (List.mem_cons_of_mem _ h)
  have hown : s.vm.findClass RX11 = some m.cls := findClass_of_methodNamed B.named
  have hlocks := B.notSynchronized
  subst hsz
  have hD := hD0.self (sz := s.heap.size)
  generalize hAe : va_A ([(xa, (b11_1 x0 (nI x1) x2 (nI x3) x4 x5 x6 x7 x8 x9 x10))] ++ va_pl L M) s.heap.size = A at hD ⊢
  have hA : ∀ q : Nat, s.heap.size ≤ q → A q := fun q h => by rw [← hAe]; exact Or.inr h
  have hS : va_S A s.heap s.heap [] := va_S.rf
  have hl := lv_entry ([.ref xa, .int k1, .int k2, .int k3]) (n := 6) (Nat.le_of_ble_eq_true rfl)
  rw [lg_entry_eq]
  generalize (lg_sl ([.ref xa, .int k1, .int k2, .int k3]) ++ List.replicate (6 - (lg_sl ([.ref xa, .int k1, .int k2, .int k3])).length) Slot.unset).toArray = ls at hl ⊢
  refine W.nameQ (fun Q hQ => ?_)
  refine W.nameR (fun R hR => ?_)
  have hRf : 2 ≤ R.frames := by rw [hR]; exact Nat.le_of_ble_eq_true rfl
  have hRl : 44 ≤ R.locals := by rw [hR]; exact Nat.le_of_ble_eq_true rfl
  have hRc : 0 ≤ R.cells := by rw [hR]; exact Nat.le_of_ble_eq_true rfl
  have hRs : 0 ≤ R.slots := by rw [hR]; exact Nat.le_of_ble_eq_true rfl
  have hl : lv_has ls 6 [(0, .ref xa), (1, .int k1), (2, .int k2), (3, .int k3)] := hl
  refine lv_aload_n hx hb dX11_stretch_0 rfl (lv_at hl 0 rfl) ?_
  refine lv_iload_n hx hb dX11_stretch_1 rfl (lv_at hl 1 rfl) ?_
  have hPc : va_P D vwCl ([(xa, (b11_1 x0 (nI x1) x2 (nI x3) x4 x5 x6 x7 x8 x9 x10))] ++ va_pl L M) s.heap := hP
  have hDc : va_D A ([(xa, (b11_1 x0 (nI x1) x2 (nI x3) x4 x5 x6 x7 x8 x9 x10))] ++ va_pl L M) := hD
  have hFc : ∀ q, va_A ([(xa, (b11_1 x0 (nI x1) x2 (nI x3) x4 x5 x6 x7 x8 x9 x10))] ++ va_pl L M) s.heap.size q → A q := pg_free hDc hS hA
  refine va_callq (va_runV (As := [.int k1]) (rest := []) ⟨hx, hb, hml, hown, hg⟩ (s_X11_houseAt l D cy K L M s.heap.size xa x0 x1 x2 x3 x4 x5 x6 x7 x8 x9 x10 k1  hW i0 b1 i2 b3 i4 i5 i6 i8) (cwV 1 hg (gV wd_340 wd_341 wd_342 wd_3 wd_343) rfl rfl rfl (by decide +kernel) ⟨(Nat.le_trans (Nat.le_of_ble_eq_true rfl) hRf), (Nat.le_trans (Nat.le_of_ble_eq_true rfl) hRl)⟩) ⟨PG.blind, va_recv hK hP (ci := 11) (q0 := 0) rfl rfl, fun U hU hW => ⟨rfl, PG.at hPc hK hDc hN hU hW⟩⟩ rfl rfl hl.1 rfl (lv_room (Nat.le_of_ble_eq_true rfl)) dX11_stretch_2 ⟨(Nat.le_trans (Nat.le_of_ble_eq_true rfl) hRc), (Nat.le_trans (Nat.le_of_ble_eq_true rfl) hRs)⟩) hS (fun q _ h => hFc q h) hFc (fun r_2 M_3 t H_1 locs ht hvm hw hB hz1 hk1 hS => ?_)
  have hp_4 := hw
  obtain ⟨hP1, hD1⟩ := hB
  rw [ht] at hP1
  have hP : va_P D vwCl ([(xa, (b11_1 x0 (nI x1) x2 (nI x3) x4 x5 x6 x7 x8 x9 x10))] ++ va_pl L M) H_1 := hP1
  have hD : va_D A ([(xa, (b11_1 x0 (nI x1) x2 (nI x3) x4 x5 x6 x7 x8 x9 x10))] ++ va_pl L M) := hD1.mono hFc
  rcases r_2 with _ | b_5
  · have hz := rfl (a := 0)
    refine lv_astoreN (lv' := [(4, .null), (0, .ref xa), (1, .int k1), (2, .int k2), (3, .int k3)]) hx hb dX11_stretch_5 hl (by decide) rfl (fun ls hl => ?_)
    refine lv_aloadN hx hb dX11_stretch_7 (lv_at hl 0 rfl) ?_
    refine lv_ifnonnullN hx hb dX11_stretch_9 ?_
    refine lv_null hx hb dX11_stretch_12 ?_
    refine lv_goto (tgt := 25) hx hb dX11_stretch_13 (by decide) ?_
    refine lv_astoreN (lv' := [(5, .null), (4, .null), (0, .ref xa), (1, .int k1), (2, .int k2), (3, .int k3)]) hx hb dX11_stretch_25 hl (by decide) rfl (fun ls hl => ?_)
    refine lv_aloadN hx hb dX11_stretch_27 (lv_at hl 0 rfl) ?_
    refine lv_ifnonnullN hx hb dX11_stretch_29 ?_
    refine lv_lconst (v := 0) hx hb dX11_stretch_32 (by decide) ?_
    refine lv_goto (tgt := 42) hx hb dX11_stretch_33 (by decide) ?_
    rw [hQ]
    exact W.lret (v := 0) hx hb hr (fun t ht hW9 => ⟨⟨0, (), rfl, trivial, ⟨by rw [ht]; exact hP, hD⟩⟩, hS.F ht⟩) hS.2.2 dX11_stretch_42
  · have hb_6 := hp_4 b_5 rfl
    refine lv_astore (lv' := [(4, .ref b_5), (0, .ref xa), (1, .int k1), (2, .int k2), (3, .int k3)]) hx hb dX11_stretch_5 hl (by decide) rfl (fun ls hl => ?_)
    refine lv_aload hx hb dX11_stretch_7 (lv_at hl 0 rfl) ?_
    refine lv_ifnonnull (tgt := 16) hx hb dX11_stretch_9 (by decide) ?_
    refine lv_aload hx hb dX11_stretch_16 (lv_at hl 0 rfl) ?_
    obtain ⟨v7_0, v7_1, v7_2, v7_3, v7_4, v7_5, v7_6, v7_7, v7_8, v7_9, v7_10, v7_11, v7_12, v7_13, v7_14, v7_15, v7_16, v7_17, v7_18, v7_19, hM7, h7_3, h7_4, h7_5, h7_6, h7_7, h7_8, h7_9, h7_10, h7_11, h7_12, h7_13, h7_16, h7_17, h7_18, h7_19⟩ := hW.open_2 hb_6
    refine pg_get (D := D) (ci := 2) (v := .ref v7_19) (C := RX2) (T := TX2) (N := 20) hx hb hg inG2 hown hK hP hb_6.1 hM7 rfl 19 (by decide) (hg _ wd_496) (fun _ h9 => h9) rfl dX11_stretch_18 ?_
    refine lv_iload_n hx hb dX11_stretch_21 rfl (lv_at hl 3 rfl) ?_
    obtain ⟨v8_0, v8_1, v8_2, v8_3, v8_4, hM8, h8_0, h8_1, h8_2, h8_3⟩ := hW.open_0 h7_19
    have hPc : va_P D vwCl ([] ++ va_pl L M) H_1 := hP.part (cx := []) [] rfl
    have hDc : va_D A ([] ++ va_pl L M) := hD.part (cx := []) [] (by decide) rfl
    have hFc : ∀ q, va_A ([] ++ va_pl L M) H_1.size q → A q := pg_free hDc hS hA
    refine va_callq (va_runV (As := [.int k2]) (rest := []) ⟨hx, hb, hml, hown, hg⟩ (s_X0_at l D cy K L M H_1.size v7_19 k2  hW h7_19) (cwV 1 hg (gV wd_497 wd_202 wd_203 wd_204 wd_205) rfl rfl rfl (by decide +kernel) ⟨(Nat.le_trans (Nat.le_of_ble_eq_true rfl) hRf), (Nat.le_trans (Nat.le_of_ble_eq_true rfl) hRl)⟩) ⟨PG.blind, pg_recv hK hP h7_19.1 hM8 rfl, fun U hU hW => ⟨rfl, PG.at hPc hK hDc hN hU hW⟩⟩ rfl rfl hl.1 rfl (lv_room (Nat.le_of_ble_eq_true rfl)) dX11_stretch_22 ⟨(Nat.le_trans (Nat.le_of_ble_eq_true rfl) hRc), (Nat.le_trans (Nat.le_of_ble_eq_true rfl) hRs)⟩) hS (fun q _ h => hFc q h) hFc (fun r_10 M_11 t H_9 locs ht hvm hw hB hz1 hk1 hS => ?_)
    have hp_12 := hw
    obtain ⟨hP1, hD1⟩ := hB
    rw [ht] at hP1
    obtain ⟨hP, hD⟩ := va_joinP (X := [(xa, (b11_1 x0 (nI x1) x2 (nI x3) x4 x5 x6 x7 x8 x9 x10))]) (cx := []) (wr := [(xa, (b11_1 x0 (nI x1) x2 (nI x3) x4 x5 x6 x7 x8 x9 x10))]) (rx := []) (pl := va_pl L M) (pl1 := va_pl L M) hP hD [] [0] rfl rfl (by decide) (by decide) hk1 hFc hP1 hD1
    have hP : va_P D vwCl ([(xa, (b11_1 x0 (nI x1) x2 (nI x3) x4 x5 x6 x7 x8 x9 x10))] ++ va_pl L M) H_9 := hP
    have hD : va_D A ([(xa, (b11_1 x0 (nI x1) x2 (nI x3) x4 x5 x6 x7 x8 x9 x10))] ++ va_pl L M) := hD
    rcases r_10 with _ | b_13
    · have hz := rfl (a := 0)
      refine lv_astoreN (lv' := [(5, .null), (4, .ref b_5), (0, .ref xa), (1, .int k1), (2, .int k2), (3, .int k3)]) hx hb dX11_stretch_25 hl (by decide) rfl (fun ls hl => ?_)
      refine lv_aloadN hx hb dX11_stretch_27 (lv_at hl 0 rfl) ?_
      refine lv_ifnonnullN hx hb dX11_stretch_29 ?_
      refine lv_lconst (v := 0) hx hb dX11_stretch_32 (by decide) ?_
      refine lv_goto (tgt := 42) hx hb dX11_stretch_33 (by decide) ?_
      rw [hQ]
      exact W.lret (v := 0) hx hb hr (fun t ht hW9 => ⟨⟨0, (), rfl, trivial, ⟨by rw [ht]; exact hP, hD⟩⟩, hS.F ht⟩) hS.2.2 dX11_stretch_42
    · have hb_14 := hp_12 b_13 rfl
      refine lv_astore (lv' := [(5, .ref b_13), (4, .ref b_5), (0, .ref xa), (1, .int k1), (2, .int k2), (3, .int k3)]) hx hb dX11_stretch_25 hl (by decide) rfl (fun ls hl => ?_)
      refine lv_aload hx hb dX11_stretch_27 (lv_at hl 0 rfl) ?_
      refine lv_ifnonnull (tgt := 36) hx hb dX11_stretch_29 (by decide) ?_
      refine lv_aload hx hb dX11_stretch_36 (lv_at hl 0 rfl) ?_
      refine lv_iload_n hx hb dX11_stretch_38 rfl (lv_at hl 5 rfl) ?_
      obtain ⟨v15_0, v15_1, v15_2, v15_3, v15_4, v15_5, hM15, h15_0, h15_1⟩ := hW.open_8 hb_14
      have hPc : va_P D vwCl ([] ++ va_pl L M) H_9 := hP.part (cx := []) [] rfl
      have hDc : va_D A ([] ++ va_pl L M) := hD.part (cx := []) [] (by decide) rfl
      have hFc : ∀ q, va_A ([] ++ va_pl L M) H_9.size q → A q := pg_free hDc hS hA
      refine va_calll (va_runV (As := [.int k3]) (rest := []) ⟨hx, hb, hml, hown, hg⟩ (s_X8_factOf l D cy K L M H_9.size b_13 k3  hW hb_14) (cwV 1 hg (gV wd_498 wd_499 wd_500 wd_193 wd_501) rfl rfl rfl (by decide +kernel) ⟨(Nat.le_trans (Nat.le_of_ble_eq_true rfl) hRf), (Nat.le_trans (Nat.le_of_ble_eq_true rfl) hRl)⟩) ⟨PG.blind, pg_recv hK hP hb_14.1 hM15 rfl, fun U hU hW => ⟨rfl, PG.at hPc hK hDc hN hU hW⟩⟩ rfl rfl hl.1 rfl (lv_room (Nat.le_of_ble_eq_true rfl)) dX11_stretch_39 ⟨(Nat.le_trans (Nat.le_of_ble_eq_true rfl) hRc), (Nat.le_trans (Nat.le_of_ble_eq_true rfl) hRs)⟩) hS (fun q _ h => hFc q h) hFc (fun r_17 M_18 t H_16 locs ht hvm hw hB hz1 hk1 hS => ?_)
      have hp_19 := hw
      obtain ⟨hP1, hD1⟩ := hB
      rw [ht] at hP1
      obtain ⟨hP, hD⟩ := va_joinP (X := [(xa, (b11_1 x0 (nI x1) x2 (nI x3) x4 x5 x6 x7 x8 x9 x10))]) (cx := []) (wr := [(xa, (b11_1 x0 (nI x1) x2 (nI x3) x4 x5 x6 x7 x8 x9 x10))]) (rx := []) (pl := va_pl L M) (pl1 := va_pl L M) hP hD [] [0] rfl rfl (by decide) (by decide) hk1 hFc hP1 hD1
      have hP : va_P D vwCl ([(xa, (b11_1 x0 (nI x1) x2 (nI x3) x4 x5 x6 x7 x8 x9 x10))] ++ va_pl L M) H_16 := hP
      have hD : va_D A ([(xa, (b11_1 x0 (nI x1) x2 (nI x3) x4 x5 x6 x7 x8 x9 x10))] ++ va_pl L M) := hD
      rw [hQ]
      exact W.lret (v := r_17) hx hb hr (fun t ht hW9 => ⟨⟨r_17, (), rfl, trivial, ⟨by rw [ht]; exact hP, hD⟩⟩, hS.F ht⟩) hS.2.2 dX11_stretch_42
set_option maxHeartbeats 4000000 in
set_option maxRecDepth 100000 in
theorem s_X11_due (l : Launch) (D : va_G) (cy : Nat → ClassId) (K : Kp) (L : List Nat) (M : Hp) (sz : Nat) (xa : Nat) (x0 : Nat) (x1 : Nat) (x2 : Nat) (x3 : Nat) (x4 : Nat) (x5 : Nat) (x6 : Nat) (x7 : Int32) (x8 : Nat) (x9 : Int32) (x10 : Int32) (k1 : Int32) (k2 : Int32) (k3 : Int32) (hW : WOK cy K L M) (i0 : isk K L x0 17 8) (b1 : x1 ≤ 8) (i2 : isk K L x2 19 40) (b3 : x3 ≤ 40) (i4 : isk K L x4 7 0) (i5 : isk K L x5 5 0) (i6 : isk K L x6 60 24) (i8 : isk K L x8 73 25) : Met l yX11_due (wsM yX11_due cX11_due 7 (some .long)) ({ frames := 2, cells := 0, slots := 0, locals := 41 }) (va_Pc [.ref xa, .int k1, .int k2, .int k3] (PG D cy [(xa, (b11_1 x0 (nI x1) x2 (nI x3) x4 x5 x6 x7 x8 x9 x10))] L M sz)) (va_Ql (fun (r : Int64) (_ : Unit) => True) (fun _ t => PQ D [(xa, (b11_1 x0 (nI x1) x2 (nI x3) x4 x5 x6 x7 x8 x9 x10))] L M (va_A ([(xa, (b11_1 x0 (nI x1) x2 (nI x3) x4 x5 x6 x7 x8 x9 x10))] ++ va_pl L M) sz) t) (va_A ([(xa, (b11_1 x0 (nI x1) x2 (nI x3) x4 x5 x6 x7 x8 x9 x10))] ++ va_pl L M) sz)) 0 0 (va_A ([(xa, (b11_1 x0 (nI x1) x2 (nI x3) x4 x5 x6 x7 x8 x9 x10))] ++ va_pl L M) sz) := by
  refine Met.ofW (cc := cX11_due) (maxL := 7) (ret := (some .long)) (by decide) rfl ?_
  intro p e s m args below meth c s₁ B hml hv
  obtain ⟨rfl, hsz, hP, hK, hD0, hN⟩ := hv
  have hx := B.exec
  have hb := B.bytes
  have hr := B.returns
  have hts := atoms_spec (ws := (wsM yX11_due cX11_due 7 (some .long))) B.pre
  have hg : ∀ w ∈ lw_good, w.before _ s = true := fun w h => hts w (List.mem_cons_of_mem _ h)
  have hown : s.vm.findClass RX11 = some m.cls := findClass_of_methodNamed B.named
  have hlocks := B.notSynchronized
  subst hsz
  have hD := hD0.self (sz := s.heap.size)
  generalize hAe : va_A ([(xa, (b11_1 x0 (nI x1) x2 (nI x3) x4 x5 x6 x7 x8 x9 x10))] ++ va_pl L M) s.heap.size = A at hD ⊢
  have hA : ∀ q : Nat, s.heap.size ≤ q → A q := fun q h => by rw [← hAe]; exact Or.inr h
  have hS : va_S A s.heap s.heap [] := va_S.rf
  have hl := lv_entry ([.ref xa, .int k1, .int k2, .int k3]) (n := 7) (Nat.le_of_ble_eq_true rfl)
  rw [lg_entry_eq]
  generalize (lg_sl ([.ref xa, .int k1, .int k2, .int k3]) ++ List.replicate (7 - (lg_sl ([.ref xa, .int k1, .int k2, .int k3])).length) Slot.unset).toArray = ls at hl ⊢
  refine W.nameQ (fun Q hQ => ?_)
  refine W.nameR (fun R hR => ?_)
  have hRf : 2 ≤ R.frames := by rw [hR]; exact Nat.le_of_ble_eq_true rfl
  have hRl : 41 ≤ R.locals := by rw [hR]; exact Nat.le_of_ble_eq_true rfl
  have hRc : 0 ≤ R.cells := by rw [hR]; exact Nat.le_of_ble_eq_true rfl
  have hRs : 0 ≤ R.slots := by rw [hR]; exact Nat.le_of_ble_eq_true rfl
  have hl : lv_has ls 7 [(0, .ref xa), (1, .int k1), (2, .int k2), (3, .int k3)] := hl
  refine lv_aload_n hx hb dX11_due_0 rfl (lv_at hl 0 rfl) ?_
  refine lv_iload_n hx hb dX11_due_1 rfl (lv_at hl 1 rfl) ?_
  have hPc : va_P D vwCl ([(xa, (b11_1 x0 (nI x1) x2 (nI x3) x4 x5 x6 x7 x8 x9 x10))] ++ va_pl L M) s.heap := hP
  have hDc : va_D A ([(xa, (b11_1 x0 (nI x1) x2 (nI x3) x4 x5 x6 x7 x8 x9 x10))] ++ va_pl L M) := hD
  have hFc : ∀ q, va_A ([(xa, (b11_1 x0 (nI x1) x2 (nI x3) x4 x5 x6 x7 x8 x9 x10))] ++ va_pl L M) s.heap.size q → A q := pg_free hDc hS hA
  refine va_callq (va_runV (As := [.int k1]) (rest := []) ⟨hx, hb, hml, hown, hg⟩ (s_X11_houseAt l D cy K L M s.heap.size xa x0 x1 x2 x3 x4 x5 x6 x7 x8 x9 x10 k1  hW i0 b1 i2 b3 i4 i5 i6 i8) (cwV 1 hg (gV wd_340 wd_341 wd_342 wd_3 wd_343) rfl rfl rfl (by decide +kernel) ⟨(Nat.le_trans (Nat.le_of_ble_eq_true rfl) hRf), (Nat.le_trans (Nat.le_of_ble_eq_true rfl) hRl)⟩) ⟨PG.blind, va_recv hK hP (ci := 11) (q0 := 0) rfl rfl, fun U hU hW => ⟨rfl, PG.at hPc hK hDc hN hU hW⟩⟩ rfl rfl hl.1 rfl (lv_room (Nat.le_of_ble_eq_true rfl)) dX11_due_2 ⟨(Nat.le_trans (Nat.le_of_ble_eq_true rfl) hRc), (Nat.le_trans (Nat.le_of_ble_eq_true rfl) hRs)⟩) hS (fun q _ h => hFc q h) hFc (fun r_2 M_3 t H_1 locs ht hvm hw hB hz1 hk1 hS => ?_)
  have hp_4 := hw
  obtain ⟨hP1, hD1⟩ := hB
  rw [ht] at hP1
  have hP : va_P D vwCl ([(xa, (b11_1 x0 (nI x1) x2 (nI x3) x4 x5 x6 x7 x8 x9 x10))] ++ va_pl L M) H_1 := hP1
  have hD : va_D A ([(xa, (b11_1 x0 (nI x1) x2 (nI x3) x4 x5 x6 x7 x8 x9 x10))] ++ va_pl L M) := hD1.mono hFc
  rcases r_2 with _ | b_5
  · have hz := rfl (a := 0)
    refine lv_astoreN (lv' := [(4, .null), (0, .ref xa), (1, .int k1), (2, .int k2), (3, .int k3)]) hx hb dX11_due_5 hl (by decide) rfl (fun ls hl => ?_)
    refine lv_aloadN hx hb dX11_due_7 (lv_at hl 0 rfl) ?_
    refine lv_ifnonnullN hx hb dX11_due_9 ?_
    refine lv_null hx hb dX11_due_12 ?_
    refine lv_goto (tgt := 25) hx hb dX11_due_13 (by decide) ?_
    refine lv_astoreN (lv' := [(5, .null), (4, .null), (0, .ref xa), (1, .int k1), (2, .int k2), (3, .int k3)]) hx hb dX11_due_25 hl (by decide) rfl (fun ls hl => ?_)
    refine lv_aloadN hx hb dX11_due_27 (lv_at hl 1 rfl) ?_
    refine lv_ifnonnullN hx hb dX11_due_29 ?_
    refine lv_null hx hb dX11_due_32 ?_
    refine lv_goto (tgt := 42) hx hb dX11_due_33 (by decide) ?_
    refine lv_astoreN (lv' := [(6, .null), (5, .null), (4, .null), (0, .ref xa), (1, .int k1), (2, .int k2), (3, .int k3)]) hx hb dX11_due_42 hl (by decide) rfl (fun ls hl => ?_)
    refine lv_aloadN hx hb dX11_due_44 (lv_at hl 1 rfl) ?_
    refine lv_ifnullN (tgt := 54) hx hb dX11_due_46 (by decide) ?_
    refine lv_lconst (v := 0) hx hb dX11_due_54 (by decide) ?_
    refine lv_goto (tgt := 65) hx hb dX11_due_55 (by decide) ?_
    rw [hQ]
    exact W.lret (v := 0) hx hb hr (fun t ht hW9 => ⟨⟨0, (), rfl, trivial, ⟨by rw [ht]; exact hP, hD⟩⟩, hS.F ht⟩) hS.2.2 dX11_due_65
  · have hb_6 := hp_4 b_5 rfl
    refine lv_astore (lv' := [(4, .ref b_5), (0, .ref xa), (1, .int k1), (2, .int k2), (3, .int k3)]) hx hb dX11_due_5 hl (by decide) rfl (fun ls hl => ?_)
    refine lv_aload hx hb dX11_due_7 (lv_at hl 0 rfl) ?_
    refine lv_ifnonnull (tgt := 16) hx hb dX11_due_9 (by decide) ?_
    refine lv_aload hx hb dX11_due_16 (lv_at hl 0 rfl) ?_
    obtain ⟨v7_0, v7_1, v7_2, v7_3, v7_4, v7_5, v7_6, v7_7, v7_8, v7_9, v7_10, v7_11, v7_12, v7_13, v7_14, v7_15, v7_16, v7_17, v7_18, v7_19, hM7, h7_3, h7_4, h7_5, h7_6, h7_7, h7_8, h7_9, h7_10, h7_11, h7_12, h7_13, h7_16, h7_17, h7_18, h7_19⟩ := hW.open_2 hb_6
    refine pg_get (D := D) (ci := 2) (v := .ref v7_19) (C := RX2) (T := TX2) (N := 20) hx hb hg inG2 hown hK hP hb_6.1 hM7 rfl 19 (by decide) (hg _ wd_496) (fun _ h9 => h9) rfl dX11_due_18 ?_
    refine lv_iload_n hx hb dX11_due_21 rfl (lv_at hl 3 rfl) ?_
    obtain ⟨v8_0, v8_1, v8_2, v8_3, v8_4, hM8, h8_0, h8_1, h8_2, h8_3⟩ := hW.open_0 h7_19
    have hPc : va_P D vwCl ([] ++ va_pl L M) H_1 := hP.part (cx := []) [] rfl
    have hDc : va_D A ([] ++ va_pl L M) := hD.part (cx := []) [] (by decide) rfl
    have hFc : ∀ q, va_A ([] ++ va_pl L M) H_1.size q → A q := pg_free hDc hS hA
    refine va_callq (va_runV (As := [.int k2]) (rest := []) ⟨hx, hb, hml, hown, hg⟩ (s_X0_at l D cy K L M H_1.size v7_19 k2  hW h7_19) (cwV 1 hg (gV wd_497 wd_202 wd_203 wd_204 wd_205) rfl rfl rfl (by decide +kernel) ⟨(Nat.le_trans (Nat.le_of_ble_eq_true rfl) hRf), (Nat.le_trans (Nat.le_of_ble_eq_true rfl) hRl)⟩) ⟨PG.blind, pg_recv hK hP h7_19.1 hM8 rfl, fun U hU hW => ⟨rfl, PG.at hPc hK hDc hN hU hW⟩⟩ rfl rfl hl.1 rfl (lv_room (Nat.le_of_ble_eq_true rfl)) dX11_due_22 ⟨(Nat.le_trans (Nat.le_of_ble_eq_true rfl) hRc), (Nat.le_trans (Nat.le_of_ble_eq_true rfl) hRs)⟩) hS (fun q _ h => hFc q h) hFc (fun r_10 M_11 t H_9 locs ht hvm hw hB hz1 hk1 hS => ?_)
    have hp_12 := hw
    obtain ⟨hP1, hD1⟩ := hB
    rw [ht] at hP1
    obtain ⟨hP, hD⟩ := va_joinP (X := [(xa, (b11_1 x0 (nI x1) x2 (nI x3) x4 x5 x6 x7 x8 x9 x10))]) (cx := []) (wr := [(xa, (b11_1 x0 (nI x1) x2 (nI x3) x4 x5 x6 x7 x8 x9 x10))]) (rx := []) (pl := va_pl L M) (pl1 := va_pl L M) hP hD [] [0] rfl rfl (by decide) (by decide) hk1 hFc hP1 hD1
    have hP : va_P D vwCl ([(xa, (b11_1 x0 (nI x1) x2 (nI x3) x4 x5 x6 x7 x8 x9 x10))] ++ va_pl L M) H_9 := hP
    have hD : va_D A ([(xa, (b11_1 x0 (nI x1) x2 (nI x3) x4 x5 x6 x7 x8 x9 x10))] ++ va_pl L M) := hD
    rcases r_10 with _ | b_13
    · have hz := rfl (a := 0)
      refine lv_astoreN (lv' := [(5, .null), (4, .ref b_5), (0, .ref xa), (1, .int k1), (2, .int k2), (3, .int k3)]) hx hb dX11_due_25 hl (by decide) rfl (fun ls hl => ?_)
      refine lv_aload hx hb dX11_due_27 (lv_at hl 1 rfl) ?_
      refine lv_ifnonnull (tgt := 36) hx hb dX11_due_29 (by decide) ?_
      refine lv_aload hx hb dX11_due_36 (lv_at hl 1 rfl) ?_
      refine lv_iload_n hx hb dX11_due_38 rfl (lv_at hl 5 rfl) ?_
      have hPc : va_P D vwCl ([] ++ va_pl L M) H_9 := hP.part (cx := []) [] rfl
      have hDc : va_D A ([] ++ va_pl L M) := hD.part (cx := []) [] (by decide) rfl
      have hFc : ∀ q, va_A ([] ++ va_pl L M) H_9.size q → A q := pg_free hDc hS hA
      refine va_callq (va_runV (As := [.int k3]) (rest := []) ⟨hx, hb, hml, hown, hg⟩ (s_X2_tenureAt l D cy K L M H_9.size b_5 k3  hW hb_6) (cwV 1 hg (gV wd_405 wd_55 wd_56 wd_57 wd_58) rfl rfl rfl (by decide +kernel) ⟨(Nat.le_trans (Nat.le_of_ble_eq_true rfl) hRf), (Nat.le_trans (Nat.le_of_ble_eq_true rfl) hRl)⟩) ⟨PG.blind, pg_recv hK hP hb_6.1 hM7 rfl, fun U hU hW => ⟨rfl, PG.at hPc hK hDc hN hU hW⟩⟩ rfl rfl hl.1 rfl (lv_room (Nat.le_of_ble_eq_true rfl)) dX11_due_39 ⟨(Nat.le_trans (Nat.le_of_ble_eq_true rfl) hRc), (Nat.le_trans (Nat.le_of_ble_eq_true rfl) hRs)⟩) hS (fun q _ h => hFc q h) hFc (fun r_15 M_16 t H_14 locs ht hvm hw hB hz1 hk1 hS => ?_)
      have hp_17 := hw
      obtain ⟨hP1, hD1⟩ := hB
      rw [ht] at hP1
      obtain ⟨hP, hD⟩ := va_joinP (X := [(xa, (b11_1 x0 (nI x1) x2 (nI x3) x4 x5 x6 x7 x8 x9 x10))]) (cx := []) (wr := [(xa, (b11_1 x0 (nI x1) x2 (nI x3) x4 x5 x6 x7 x8 x9 x10))]) (rx := []) (pl := va_pl L M) (pl1 := va_pl L M) hP hD [] [0] rfl rfl (by decide) (by decide) hk1 hFc hP1 hD1
      have hP : va_P D vwCl ([(xa, (b11_1 x0 (nI x1) x2 (nI x3) x4 x5 x6 x7 x8 x9 x10))] ++ va_pl L M) H_14 := hP
      have hD : va_D A ([(xa, (b11_1 x0 (nI x1) x2 (nI x3) x4 x5 x6 x7 x8 x9 x10))] ++ va_pl L M) := hD
      rcases r_15 with _ | b_18
      · have hz := rfl (a := 0)
        refine lv_astoreN (lv' := [(6, .null), (5, .null), (4, .ref b_5), (0, .ref xa), (1, .int k1), (2, .int k2), (3, .int k3)]) hx hb dX11_due_42 hl (by decide) rfl (fun ls hl => ?_)
        refine lv_aloadN hx hb dX11_due_44 (lv_at hl 1 rfl) ?_
        refine lv_ifnullN (tgt := 54) hx hb dX11_due_46 (by decide) ?_
        refine lv_lconst (v := 0) hx hb dX11_due_54 (by decide) ?_
        refine lv_goto (tgt := 65) hx hb dX11_due_55 (by decide) ?_
        rw [hQ]
        exact W.lret (v := 0) hx hb hr (fun t ht hW9 => ⟨⟨0, (), rfl, trivial, ⟨by rw [ht]; exact hP, hD⟩⟩, hS.F ht⟩) hS.2.2 dX11_due_65
      · have hb_19 := hp_17 b_18 rfl
        refine lv_astore (lv' := [(6, .ref b_18), (5, .null), (4, .ref b_5), (0, .ref xa), (1, .int k1), (2, .int k2), (3, .int k3)]) hx hb dX11_due_42 hl (by decide) rfl (fun ls hl => ?_)
        refine lv_aloadN hx hb dX11_due_44 (lv_at hl 1 rfl) ?_
        refine lv_ifnullN (tgt := 54) hx hb dX11_due_46 (by decide) ?_
        refine lv_lconst (v := 0) hx hb dX11_due_54 (by decide) ?_
        refine lv_goto (tgt := 65) hx hb dX11_due_55 (by decide) ?_
        rw [hQ]
        exact W.lret (v := 0) hx hb hr (fun t ht hW9 => ⟨⟨0, (), rfl, trivial, ⟨by rw [ht]; exact hP, hD⟩⟩, hS.F ht⟩) hS.2.2 dX11_due_65
    · have hb_20 := hp_12 b_13 rfl
      refine lv_astore (lv' := [(5, .ref b_13), (4, .ref b_5), (0, .ref xa), (1, .int k1), (2, .int k2), (3, .int k3)]) hx hb dX11_due_25 hl (by decide) rfl (fun ls hl => ?_)
      refine lv_aload hx hb dX11_due_27 (lv_at hl 1 rfl) ?_
      refine lv_ifnonnull (tgt := 36) hx hb dX11_due_29 (by decide) ?_
      refine lv_aload hx hb dX11_due_36 (lv_at hl 1 rfl) ?_
      refine lv_iload_n hx hb dX11_due_38 rfl (lv_at hl 5 rfl) ?_
      have hPc : va_P D vwCl ([] ++ va_pl L M) H_9 := hP.part (cx := []) [] rfl
      have hDc : va_D A ([] ++ va_pl L M) := hD.part (cx := []) [] (by decide) rfl
      have hFc : ∀ q, va_A ([] ++ va_pl L M) H_9.size q → A q := pg_free hDc hS hA
      refine va_callq (va_runV (As := [.int k3]) (rest := []) ⟨hx, hb, hml, hown, hg⟩ (s_X2_tenureAt l D cy K L M H_9.size b_5 k3  hW hb_6) (cwV 1 hg (gV wd_405 wd_55 wd_56 wd_57 wd_58) rfl rfl rfl (by decide +kernel) ⟨(Nat.le_trans (Nat.le_of_ble_eq_true rfl) hRf), (Nat.le_trans (Nat.le_of_ble_eq_true rfl) hRl)⟩) ⟨PG.blind, pg_recv hK hP hb_6.1 hM7 rfl, fun U hU hW => ⟨rfl, PG.at hPc hK hDc hN hU hW⟩⟩ rfl rfl hl.1 rfl (lv_room (Nat.le_of_ble_eq_true rfl)) dX11_due_39 ⟨(Nat.le_trans (Nat.le_of_ble_eq_true rfl) hRc), (Nat.le_trans (Nat.le_of_ble_eq_true rfl) hRs)⟩) hS (fun q _ h => hFc q h) hFc (fun r_22 M_23 t H_21 locs ht hvm hw hB hz1 hk1 hS => ?_)
      have hp_24 := hw
      obtain ⟨hP1, hD1⟩ := hB
      rw [ht] at hP1
      obtain ⟨hP, hD⟩ := va_joinP (X := [(xa, (b11_1 x0 (nI x1) x2 (nI x3) x4 x5 x6 x7 x8 x9 x10))]) (cx := []) (wr := [(xa, (b11_1 x0 (nI x1) x2 (nI x3) x4 x5 x6 x7 x8 x9 x10))]) (rx := []) (pl := va_pl L M) (pl1 := va_pl L M) hP hD [] [0] rfl rfl (by decide) (by decide) hk1 hFc hP1 hD1
      have hP : va_P D vwCl ([(xa, (b11_1 x0 (nI x1) x2 (nI x3) x4 x5 x6 x7 x8 x9 x10))] ++ va_pl L M) H_21 := hP
      have hD : va_D A ([(xa, (b11_1 x0 (nI x1) x2 (nI x3) x4 x5 x6 x7 x8 x9 x10))] ++ va_pl L M) := hD
      rcases r_22 with _ | b_25
      · have hz := rfl (a := 0)
        refine lv_astoreN (lv' := [(6, .null), (5, .ref b_13), (4, .ref b_5), (0, .ref xa), (1, .int k1), (2, .int k2), (3, .int k3)]) hx hb dX11_due_42 hl (by decide) rfl (fun ls hl => ?_)
        refine lv_aload hx hb dX11_due_44 (lv_at hl 1 rfl) ?_
        refine lv_ifnull hx hb dX11_due_46 ?_
        refine lv_aloadN hx hb dX11_due_49 (lv_at hl 0 rfl) ?_
        refine lv_ifnonnullN hx hb dX11_due_51 ?_
        refine lv_lconst (v := 0) hx hb dX11_due_54 (by decide) ?_
        refine lv_goto (tgt := 65) hx hb dX11_due_55 (by decide) ?_
        rw [hQ]
        exact W.lret (v := 0) hx hb hr (fun t ht hW9 => ⟨⟨0, (), rfl, trivial, ⟨by rw [ht]; exact hP, hD⟩⟩, hS.F ht⟩) hS.2.2 dX11_due_65
      · have hb_26 := hp_24 b_25 rfl
        refine lv_astore (lv' := [(6, .ref b_25), (5, .ref b_13), (4, .ref b_5), (0, .ref xa), (1, .int k1), (2, .int k2), (3, .int k3)]) hx hb dX11_due_42 hl (by decide) rfl (fun ls hl => ?_)
        refine lv_aload hx hb dX11_due_44 (lv_at hl 1 rfl) ?_
        refine lv_ifnull hx hb dX11_due_46 ?_
        refine lv_aload hx hb dX11_due_49 (lv_at hl 0 rfl) ?_
        refine lv_ifnonnull (tgt := 58) hx hb dX11_due_51 (by decide) ?_
        refine lv_aload hx hb dX11_due_58 (lv_at hl 1 rfl) ?_
        refine lv_aload hx hb dX11_due_60 (lv_at hl 0 rfl) ?_
        obtain ⟨v27_0, v27_1, v27_2, v27_3, v27_4, v27_5, hM27, h27_0, h27_1⟩ := hW.open_8 hb_20
        have hPc : va_P D vwCl ([] ++ va_pl L M) H_21 := hP.part (cx := []) [] rfl
        have hDc : va_D A ([] ++ va_pl L M) := hD.part (cx := []) [] (by decide) rfl
        have hFc : ∀ q, va_A ([] ++ va_pl L M) H_21.size q → A q := pg_free hDc hS hA
        refine va_calll (va_runV (As := [.ref b_25]) (rest := []) ⟨hx, hb, hml, hown, hg⟩ (s_X8_dueOf l D cy K L M H_21.size b_13 b_25  hW hb_20 hb_26) (cwV 1 hg (gV wd_502 wd_282 wd_283 wd_193 wd_284) rfl rfl rfl (by decide +kernel) ⟨(Nat.le_trans (Nat.le_of_ble_eq_true rfl) hRf), (Nat.le_trans (Nat.le_of_ble_eq_true rfl) hRl)⟩) ⟨PG.blind, pg_recv hK hP hb_20.1 hM27 rfl, fun U hU hW => ⟨rfl, PG.at hPc hK hDc hN hU hW⟩⟩ rfl rfl hl.1 rfl (lv_room (Nat.le_of_ble_eq_true rfl)) dX11_due_62 ⟨(Nat.le_trans (Nat.le_of_ble_eq_true rfl) hRc), (Nat.le_trans (Nat.le_of_ble_eq_true rfl) hRs)⟩) hS (fun q _ h => hFc q h) hFc (fun r_29 M_30 t H_28 locs ht hvm hw hB hz1 hk1 hS => ?_)
        have hp_31 := hw
        obtain ⟨hP1, hD1⟩ := hB
        rw [ht] at hP1
        obtain ⟨hP, hD⟩ := va_joinP (X := [(xa, (b11_1 x0 (nI x1) x2 (nI x3) x4 x5 x6 x7 x8 x9 x10))]) (cx := []) (wr := [(xa, (b11_1 x0 (nI x1) x2 (nI x3) x4 x5 x6 x7 x8 x9 x10))]) (rx := []) (pl := va_pl L M) (pl1 := va_pl L M) hP hD [] [0] rfl rfl (by decide) (by decide) hk1 hFc hP1 hD1
        have hP : va_P D vwCl ([(xa, (b11_1 x0 (nI x1) x2 (nI x3) x4 x5 x6 x7 x8 x9 x10))] ++ va_pl L M) H_28 := hP
        have hD : va_D A ([(xa, (b11_1 x0 (nI x1) x2 (nI x3) x4 x5 x6 x7 x8 x9 x10))] ++ va_pl L M) := hD
        rw [hQ]
        exact W.lret (v := r_29) hx hb hr (fun t ht hW9 => ⟨⟨r_29, (), rfl, trivial, ⟨by rw [ht]; exact hP, hD⟩⟩, hS.F ht⟩) hS.2.2 dX11_due_65
set_option maxHeartbeats 4000000 in
set_option maxRecDepth 100000 in
theorem s_X11_sum (l : Launch) (D : va_G) (cy : Nat → ClassId) (K : Kp) (L : List Nat) (M : Hp) (sz : Nat) (xa : Nat) (x0 : Nat) (x1 : Nat) (x2 : Nat) (x3 : Nat) (x4 : Nat) (x5 : Nat) (x6 : Nat) (x7 : Int32) (x8 : Nat) (x9 : Int32) (x10 : Int32) (k1 : Int32) (k2 : Int32) (k3 : Int32) (hW : WOK cy K L M) (i0 : isk K L x0 17 8) (b1 : x1 ≤ 8) (i2 : isk K L x2 19 40) (b3 : x3 ≤ 40) (i4 : isk K L x4 7 0) (i5 : isk K L x5 5 0) (i6 : isk K L x6 60 24) (i8 : isk K L x8 73 25) : Met l yX11_sum (wsM yX11_sum cX11_sum 5 (some .long)) ({ frames := 3, cells := 0, slots := 0, locals := 63 }) (va_Pc [.ref xa, .int k1, .int k2, .int k3] (PG D cy [(xa, (b11_1 x0 (nI x1) x2 (nI x3) x4 x5 x6 x7 x8 x9 x10))] L M sz)) (va_Ql (fun (r : Int64) (_ : Unit) => True) (fun _ t => PQ D [(xa, (b11_1 x0 (nI x1) x2 (nI x3) x4 x5 x6 x7 x8 x9 x10))] L M (va_A ([(xa, (b11_1 x0 (nI x1) x2 (nI x3) x4 x5 x6 x7 x8 x9 x10))] ++ va_pl L M) sz) t) (va_A ([(xa, (b11_1 x0 (nI x1) x2 (nI x3) x4 x5 x6 x7 x8 x9 x10))] ++ va_pl L M) sz)) 0 0 (va_A ([(xa, (b11_1 x0 (nI x1) x2 (nI x3) x4 x5 x6 x7 x8 x9 x10))] ++ va_pl L M) sz) := by
  refine Met.ofW (cc := cX11_sum) (maxL := 5) (ret := (some .long)) (by decide) rfl ?_
  intro p e s m args below meth c s₁ B hml hv
  obtain ⟨rfl, hsz, hP, hK, hD0, hN⟩ := hv
  have hx := B.exec
  have hb := B.bytes
  have hr := B.returns
  have hts := atoms_spec (ws := (wsM yX11_sum cX11_sum 5 (some .long))) B.pre
  have hg : ∀ w ∈ lw_good, w.before _ s = true := fun w h => hts w (List.mem_cons_of_mem _ h)
  have hown : s.vm.findClass RX11 = some m.cls := findClass_of_methodNamed B.named
  have hlocks := B.notSynchronized
  subst hsz
  have hD := hD0.self (sz := s.heap.size)
  generalize hAe : va_A ([(xa, (b11_1 x0 (nI x1) x2 (nI x3) x4 x5 x6 x7 x8 x9 x10))] ++ va_pl L M) s.heap.size = A at hD ⊢
  have hA : ∀ q : Nat, s.heap.size ≤ q → A q := fun q h => by rw [← hAe]; exact Or.inr h
  have hS : va_S A s.heap s.heap [] := va_S.rf
  have hl := lv_entry ([.ref xa, .int k1, .int k2, .int k3]) (n := 5) (Nat.le_of_ble_eq_true rfl)
  rw [lg_entry_eq]
  generalize (lg_sl ([.ref xa, .int k1, .int k2, .int k3]) ++ List.replicate (5 - (lg_sl ([.ref xa, .int k1, .int k2, .int k3])).length) Slot.unset).toArray = ls at hl ⊢
  refine W.nameQ (fun Q hQ => ?_)
  refine W.nameR (fun R hR => ?_)
  have hRf : 3 ≤ R.frames := by rw [hR]; exact Nat.le_of_ble_eq_true rfl
  have hRl : 63 ≤ R.locals := by rw [hR]; exact Nat.le_of_ble_eq_true rfl
  have hRc : 0 ≤ R.cells := by rw [hR]; exact Nat.le_of_ble_eq_true rfl
  have hRs : 0 ≤ R.slots := by rw [hR]; exact Nat.le_of_ble_eq_true rfl
  have hl : lv_has ls 5 [(0, .ref xa), (1, .int k1), (2, .int k2), (3, .int k3)] := hl
  refine lv_aload_n hx hb dX11_sum_0 rfl (lv_at hl 0 rfl) ?_
  refine lv_iload_n hx hb dX11_sum_1 rfl (lv_at hl 1 rfl) ?_
  have hPc : va_P D vwCl ([(xa, (b11_1 x0 (nI x1) x2 (nI x3) x4 x5 x6 x7 x8 x9 x10))] ++ va_pl L M) s.heap := hP
  have hDc : va_D A ([(xa, (b11_1 x0 (nI x1) x2 (nI x3) x4 x5 x6 x7 x8 x9 x10))] ++ va_pl L M) := hD
  have hFc : ∀ q, va_A ([(xa, (b11_1 x0 (nI x1) x2 (nI x3) x4 x5 x6 x7 x8 x9 x10))] ++ va_pl L M) s.heap.size q → A q := pg_free hDc hS hA
  refine va_callq (va_runV (As := [.int k1]) (rest := []) ⟨hx, hb, hml, hown, hg⟩ (s_X11_houseAt l D cy K L M s.heap.size xa x0 x1 x2 x3 x4 x5 x6 x7 x8 x9 x10 k1  hW i0 b1 i2 b3 i4 i5 i6 i8) (cwV 1 hg (gV wd_340 wd_341 wd_342 wd_3 wd_343) rfl rfl rfl (by decide +kernel) ⟨(Nat.le_trans (Nat.le_of_ble_eq_true rfl) hRf), (Nat.le_trans (Nat.le_of_ble_eq_true rfl) hRl)⟩) ⟨PG.blind, va_recv hK hP (ci := 11) (q0 := 0) rfl rfl, fun U hU hW => ⟨rfl, PG.at hPc hK hDc hN hU hW⟩⟩ rfl rfl hl.1 rfl (lv_room (Nat.le_of_ble_eq_true rfl)) dX11_sum_2 ⟨(Nat.le_trans (Nat.le_of_ble_eq_true rfl) hRc), (Nat.le_trans (Nat.le_of_ble_eq_true rfl) hRs)⟩) hS (fun q _ h => hFc q h) hFc (fun r_2 M_3 t H_1 locs ht hvm hw hB hz1 hk1 hS => ?_)
  have hp_4 := hw
  obtain ⟨hP1, hD1⟩ := hB
  rw [ht] at hP1
  have hP : va_P D vwCl ([(xa, (b11_1 x0 (nI x1) x2 (nI x3) x4 x5 x6 x7 x8 x9 x10))] ++ va_pl L M) H_1 := hP1
  have hD : va_D A ([(xa, (b11_1 x0 (nI x1) x2 (nI x3) x4 x5 x6 x7 x8 x9 x10))] ++ va_pl L M) := hD1.mono hFc
  rcases r_2 with _ | b_5
  · have hz := rfl (a := 0)
    refine lv_astoreN (lv' := [(4, .null), (0, .ref xa), (1, .int k1), (2, .int k2), (3, .int k3)]) hx hb dX11_sum_5 hl (by decide) rfl (fun ls hl => ?_)
    refine lv_aloadN hx hb dX11_sum_7 (lv_at hl 0 rfl) ?_
    refine lv_ifnonnullN hx hb dX11_sum_9 ?_
    refine lv_lconst (v := 0) hx hb dX11_sum_12 (by decide) ?_
    rw [hQ]
    exact W.lret (v := 0) hx hb hr (fun t ht hW9 => ⟨⟨0, (), rfl, trivial, ⟨by rw [ht]; exact hP, hD⟩⟩, hS.F ht⟩) hS.2.2 dX11_sum_13
  · have hb_6 := hp_4 b_5 rfl
    refine lv_astore (lv' := [(4, .ref b_5), (0, .ref xa), (1, .int k1), (2, .int k2), (3, .int k3)]) hx hb dX11_sum_5 hl (by decide) rfl (fun ls hl => ?_)
    refine lv_aload hx hb dX11_sum_7 (lv_at hl 0 rfl) ?_
    refine lv_ifnonnull (tgt := 14) hx hb dX11_sum_9 (by decide) ?_
    refine lv_iload_n hx hb dX11_sum_14 rfl (lv_at hl 3 rfl) ?_
    by_cases hout : (k2 : Int32).toInt < 0 ∨ 3 < (k2 : Int32).toInt
    · refine lv_tableOut (tgt := 85) hx hb dX11_sum_15 hout (by decide) ?_
      refine lv_lconst (v := 0) hx hb dX11_sum_85 (by decide) ?_
      rw [hQ]
      exact W.lret (v := 0) hx hb hr (fun t ht hW9 => ⟨⟨0, (), rfl, trivial, ⟨by rw [ht]; exact hP, hD⟩⟩, hS.F ht⟩) hS.2.2 dX11_sum_86
    · obtain ⟨j_7, hj, hj2⟩ : ∃ j : Nat, j ≤ 3 ∧ (k2 : Int32).toInt = (j : Int) := ⟨(k2 : Int32).toInt.toNat, by omega, by omega⟩
      rcases (show j_7 = 0 ∨ j_7 = 1 ∨ j_7 = 2 ∨ j_7 = 3 by omega) with rfl | rfl | rfl | rfl
      · refine lv_tableIn (tgt := 44) hx hb dX11_sum_15 (by omega) (by omega) (by rw [hj2]; rfl) (by decide) ?_
        refine lv_aload hx hb dX11_sum_44 (lv_at hl 0 rfl) ?_
        obtain ⟨v8_0, v8_1, v8_2, v8_3, v8_4, v8_5, v8_6, v8_7, v8_8, v8_9, v8_10, v8_11, v8_12, v8_13, v8_14, v8_15, v8_16, v8_17, v8_18, v8_19, hM8, h8_3, h8_4, h8_5, h8_6, h8_7, h8_8, h8_9, h8_10, h8_11, h8_12, h8_13, h8_16, h8_17, h8_18, h8_19⟩ := hW.open_2 hb_6
        refine pg_get (D := D) (ci := 2) (v := .long v8_14) (C := RX2) (T := TX2) (N := 20) hx hb hg inG2 hown hK hP hb_6.1 hM8 rfl 14 (by decide) (hg _ wd_402) (fun _ h9 => h9) rfl dX11_sum_46 ?_
        rw [hQ]
        exact W.lret (v := v8_14) hx hb hr (fun t ht hW9 => ⟨⟨v8_14, (), rfl, trivial, ⟨by rw [ht]; exact hP, hD⟩⟩, hS.F ht⟩) hS.2.2 dX11_sum_49
      · refine lv_tableIn (tgt := 50) hx hb dX11_sum_15 (by omega) (by omega) (by rw [hj2]; rfl) (by decide) ?_
        refine lv_aload hx hb dX11_sum_50 (lv_at hl 0 rfl) ?_
        refine lv_iload_n hx hb dX11_sum_52 rfl (lv_at hl 4 rfl) ?_
        obtain ⟨v9_0, v9_1, v9_2, v9_3, v9_4, v9_5, v9_6, v9_7, v9_8, v9_9, v9_10, v9_11, v9_12, v9_13, v9_14, v9_15, v9_16, v9_17, v9_18, v9_19, hM9, h9_3, h9_4, h9_5, h9_6, h9_7, h9_8, h9_9, h9_10, h9_11, h9_12, h9_13, h9_16, h9_17, h9_18, h9_19⟩ := hW.open_2 hb_6
        have hPc : va_P D vwCl ([] ++ va_pl L M) H_1 := hP.part (cx := []) [] rfl
        have hDc : va_D A ([] ++ va_pl L M) := hD.part (cx := []) [] (by decide) rfl
        have hFc : ∀ q, va_A ([] ++ va_pl L M) H_1.size q → A q := pg_free hDc hS hA
        refine va_calll (va_runV (As := [.int k3]) (rest := []) ⟨hx, hb, hml, hown, hg⟩ (s_X2_entriesOn l D cy K L M H_1.size b_5 k3  hW hb_6) (cwV 1 hg (gV wd_507 wd_508 wd_509 wd_57 wd_510) rfl rfl rfl (by decide +kernel) ⟨(Nat.le_trans (Nat.le_of_ble_eq_true rfl) hRf), (Nat.le_trans (Nat.le_of_ble_eq_true rfl) hRl)⟩) ⟨PG.blind, pg_recv hK hP hb_6.1 hM9 rfl, fun U hU hW => ⟨rfl, PG.at hPc hK hDc hN hU hW⟩⟩ rfl rfl hl.1 rfl (lv_room (Nat.le_of_ble_eq_true rfl)) dX11_sum_53 ⟨(Nat.le_trans (Nat.le_of_ble_eq_true rfl) hRc), (Nat.le_trans (Nat.le_of_ble_eq_true rfl) hRs)⟩) hS (fun q _ h => hFc q h) hFc (fun r_11 M_12 t H_10 locs ht hvm hw hB hz1 hk1 hS => ?_)
        have hp_13 := hw
        obtain ⟨hP1, hD1⟩ := hB
        rw [ht] at hP1
        obtain ⟨hP, hD⟩ := va_joinP (X := [(xa, (b11_1 x0 (nI x1) x2 (nI x3) x4 x5 x6 x7 x8 x9 x10))]) (cx := []) (wr := [(xa, (b11_1 x0 (nI x1) x2 (nI x3) x4 x5 x6 x7 x8 x9 x10))]) (rx := []) (pl := va_pl L M) (pl1 := va_pl L M) hP hD [] [0] rfl rfl (by decide) (by decide) hk1 hFc hP1 hD1
        have hP : va_P D vwCl ([(xa, (b11_1 x0 (nI x1) x2 (nI x3) x4 x5 x6 x7 x8 x9 x10))] ++ va_pl L M) H_10 := hP
        have hD : va_D A ([(xa, (b11_1 x0 (nI x1) x2 (nI x3) x4 x5 x6 x7 x8 x9 x10))] ++ va_pl L M) := hD
        rw [hQ]
        exact W.lret (v := r_11) hx hb hr (fun t ht hW9 => ⟨⟨r_11, (), rfl, trivial, ⟨by rw [ht]; exact hP, hD⟩⟩, hS.F ht⟩) hS.2.2 dX11_sum_56
      · refine lv_tableIn (tgt := 57) hx hb dX11_sum_15 (by omega) (by omega) (by rw [hj2]; rfl) (by decide) ?_
        refine lv_iload_n hx hb dX11_sum_57 rfl (lv_at hl 4 rfl) ?_
        have hPc : va_P D vwCl ([] ++ va_pl L M) H_1 := hP.part (cx := []) [] rfl
        have hDc : va_D A ([] ++ va_pl L M) := hD.part (cx := []) [] (by decide) rfl
        have hFc : ∀ q, va_A ([] ++ va_pl L M) H_1.size q → A q := pg_free hDc hS hA
        refine va_calli (va_runS (As := [.int k3]) (rest := []) ⟨hx, hb, hml, hown, hg⟩ (s_X11_isDay l D cy K L M H_1.size k3  hW ) (va_cwS 1 hg (gS wd_495 wd_43 wd_3 wd_42) rfl rfl rfl (by decide +kernel) ⟨(Nat.le_trans (Nat.le_of_ble_eq_true rfl) hRf), (Nat.le_trans (Nat.le_of_ble_eq_true rfl) hRl)⟩) ⟨PG.blind, fun U hU hW => ⟨rfl, PG.at hPc hK hDc hN hU hW⟩⟩ rfl rfl hl.1 rfl (lv_room (Nat.le_of_ble_eq_true rfl)) dX11_sum_58 ⟨(Nat.le_trans (Nat.le_of_ble_eq_true rfl) hRc), (Nat.le_trans (Nat.le_of_ble_eq_true rfl) hRs)⟩) hS (fun q _ h => hFc q h) hFc (fun r_15 M_16 t H_14 locs ht hvm hw hB hz1 hk1 hS => ?_)
        have hp_17 := hw
        obtain ⟨hP1, hD1⟩ := hB
        rw [ht] at hP1
        obtain ⟨hP, hD⟩ := va_joinP (X := [(xa, (b11_1 x0 (nI x1) x2 (nI x3) x4 x5 x6 x7 x8 x9 x10))]) (cx := []) (wr := [(xa, (b11_1 x0 (nI x1) x2 (nI x3) x4 x5 x6 x7 x8 x9 x10))]) (rx := []) (pl := va_pl L M) (pl1 := va_pl L M) hP hD [] [0] rfl rfl (by decide) (by decide) hk1 hFc hP1 hD1
        have hP : va_P D vwCl ([(xa, (b11_1 x0 (nI x1) x2 (nI x3) x4 x5 x6 x7 x8 x9 x10))] ++ va_pl L M) H_14 := hP
        have hD : va_D A ([(xa, (b11_1 x0 (nI x1) x2 (nI x3) x4 x5 x6 x7 x8 x9 x10))] ++ va_pl L M) := hD
        rcases hp_17 with ⟨rfl, c_18, c_19⟩ | rfl
        · have hz := rfl (a := 0)
          refine lv_if_eq (tgt := 74) hx hb dX11_sum_61 (by decide) (fun c_20 => absurd c_20 (by decide)) (fun _ => ?_)
          refine lv_aload hx hb dX11_sum_64 (lv_at hl 0 rfl) ?_
          obtain ⟨v21_0, v21_1, v21_2, v21_3, v21_4, v21_5, v21_6, v21_7, v21_8, v21_9, v21_10, v21_11, v21_12, v21_13, v21_14, v21_15, v21_16, v21_17, v21_18, v21_19, hM21, h21_3, h21_4, h21_5, h21_6, h21_7, h21_8, h21_9, h21_10, h21_11, h21_12, h21_13, h21_16, h21_17, h21_18, h21_19⟩ := hW.open_2 hb_6
          refine pg_get (D := D) (ci := 2) (v := .ref v21_13) (C := RX2) (T := TX2) (N := 20) hx hb hg inG2 hown hK hP hb_6.1 hM21 rfl 13 (by decide) (hg _ wd_511) (fun _ h9 => h9) rfl dX11_sum_66 ?_
          refine lv_iload_n hx hb dX11_sum_69 rfl (lv_at hl 4 rfl) ?_
          obtain ⟨f22, hM22⟩ := hW.open_67 h21_13
          refine pg_lald hx hb hK hP h21_13.1 1 hM22 rfl (inbE k3 999 1000 (by decide) (by decide) c_18 (Int32.not_lt.mp c_19)) dX11_sum_70 ?_
          refine lv_topl (fun f_23 ef_23 => ?_)
          refine lv_goto (tgt := 75) hx hb dX11_sum_71 (by decide) ?_
          rw [hQ]
          exact W.lret (v := f_23) hx hb hr (fun t ht hW9 => ⟨⟨f_23, (), rfl, trivial, ⟨by rw [ht]; exact hP, hD⟩⟩, hS.F ht⟩) hS.2.2 dX11_sum_75
        · have hz := rfl (a := 0)
          refine lv_if_eq (tgt := 74) hx hb dX11_sum_61 (by decide) (fun _ => ?_) (fun c_24 => absurd c_24 (by decide))
          refine lv_lconst (v := 0) hx hb dX11_sum_74 (by decide) ?_
          rw [hQ]
          exact W.lret (v := 0) hx hb hr (fun t ht hW9 => ⟨⟨0, (), rfl, trivial, ⟨by rw [ht]; exact hP, hD⟩⟩, hS.F ht⟩) hS.2.2 dX11_sum_75
      · refine lv_tableIn (tgt := 76) hx hb dX11_sum_15 (by omega) (by omega) (by rw [hj2]; rfl) (by decide) ?_
        refine lv_aload hx hb dX11_sum_76 (lv_at hl 0 rfl) ?_
        obtain ⟨v25_0, v25_1, v25_2, v25_3, v25_4, v25_5, v25_6, v25_7, v25_8, v25_9, v25_10, v25_11, v25_12, v25_13, v25_14, v25_15, v25_16, v25_17, v25_18, v25_19, hM25, h25_3, h25_4, h25_5, h25_6, h25_7, h25_8, h25_9, h25_10, h25_11, h25_12, h25_13, h25_16, h25_17, h25_18, h25_19⟩ := hW.open_2 hb_6
        refine pg_get (D := D) (ci := 2) (v := .ref v25_19) (C := RX2) (T := TX2) (N := 20) hx hb hg inG2 hown hK hP hb_6.1 hM25 rfl 19 (by decide) (hg _ wd_496) (fun _ h9 => h9) rfl dX11_sum_78 ?_
        obtain ⟨v26_0, v26_1, v26_2, v26_3, v26_4, hM26, h26_0, h26_1, h26_2, h26_3⟩ := hW.open_0 h25_19
        refine pg_get (D := D) (ci := 0) (v := .long v26_4) (C := RX0) (T := TX0) (N := 5) hx hb hg inG0 hown hK hP h25_19.1 hM26 rfl 4 (by decide) (hg _ wd_512) (fun _ h9 => h9) rfl dX11_sum_81 ?_
        rw [hQ]
        exact W.lret (v := v26_4) hx hb hr (fun t ht hW9 => ⟨⟨v26_4, (), rfl, trivial, ⟨by rw [ht]; exact hP, hD⟩⟩, hS.F ht⟩) hS.2.2 dX11_sum_84
set_option maxHeartbeats 4000000 in
set_option maxRecDepth 100000 in
theorem s_X11_sheet (l : Launch) (D : va_G) (cy : Nat → ClassId) (K : Kp) (L : List Nat) (M : Hp) (sz : Nat) (xa : Nat) (x0 : Nat) (x1 : Nat) (x2 : Nat) (x3 : Nat) (x4 : Nat) (x5 : Nat) (x6 : Nat) (x7 : Int32) (x8 : Nat) (x9 : Int32) (x10 : Int32) (k1 : Int32) (k2 : Int64) (hW : WOK cy K L M) (i0 : isk K L x0 17 8) (b1 : x1 ≤ 8) (i2 : isk K L x2 19 40) (b3 : x3 ≤ 40) (i4 : isk K L x4 7 0) (i5 : isk K L x5 5 0) (i6 : isk K L x6 60 24) (i8 : isk K L x8 73 25) : Met l yX11_sheet (wsM yX11_sheet cX11_sheet 4 (some .int)) ({ frames := 2, cells := 0, slots := 0, locals := 43 }) (va_Pc [.ref xa, .int k1, .long k2] (PG D cy [(xa, (b11_1 x0 (nI x1) x2 (nI x3) x4 x5 x6 x7 x8 x9 x10))] L M sz)) (va_Qi (fun (r : Int32) (M9 : Hp) => WOK cy K L M9 ∧ fr K L [73] M M9 ∧ ((r = (-1)) ∨ (r = 1))) (fun M9 t => ∃ (w9 : Int32), PQ D [(xa, (b11_1 x0 (nI x1) x2 (nI x3) x4 x5 x6 x7 x8 w9 (-1)))] L M9 (va_A ([(xa, (b11_1 x0 (nI x1) x2 (nI x3) x4 x5 x6 x7 x8 x9 x10))] ++ va_pl L M) sz) t) (va_A ([(xa, (b11_1 x0 (nI x1) x2 (nI x3) x4 x5 x6 x7 x8 x9 x10))] ++ va_pl L M) sz)) 0 0 (va_A ([(xa, (b11_1 x0 (nI x1) x2 (nI x3) x4 x5 x6 x7 x8 x9 x10))] ++ va_pl L M) sz) := by
  refine Met.ofW (cc := cX11_sheet) (maxL := 4) (ret := (some .int)) (by decide) rfl ?_
  intro p e s m args below meth c s₁ B hml hv
  obtain ⟨rfl, hsz, hP, hK, hD0, hN⟩ := hv
  have hx := B.exec
  have hb := B.bytes
  have hr := B.returns
  have hts := atoms_spec (ws := (wsM yX11_sheet cX11_sheet 4 (some .int))) B.pre
  have hg : ∀ w ∈ lw_good, w.before _ s = true := fun w h => hts w (List.mem_cons_of_mem _ h)
  have hown : s.vm.findClass RX11 = some m.cls := findClass_of_methodNamed B.named
  have hlocks := B.notSynchronized
  subst hsz
  have hD := hD0.self (sz := s.heap.size)
  generalize hAe : va_A ([(xa, (b11_1 x0 (nI x1) x2 (nI x3) x4 x5 x6 x7 x8 x9 x10))] ++ va_pl L M) s.heap.size = A at hD ⊢
  have hA : ∀ q : Nat, s.heap.size ≤ q → A q := fun q h => by rw [← hAe]; exact Or.inr h
  have hS : va_S A s.heap s.heap [] := va_S.rf
  have hl := lv_entry ([.ref xa, .int k1, .long k2]) (n := 4) (Nat.le_of_ble_eq_true rfl)
  rw [lg_entry_eq]
  generalize (lg_sl ([.ref xa, .int k1, .long k2]) ++ List.replicate (4 - (lg_sl ([.ref xa, .int k1, .long k2])).length) Slot.unset).toArray = ls at hl ⊢
  refine W.nameQ (fun Q hQ => ?_)
  refine W.nameR (fun R hR => ?_)
  have hRf : 2 ≤ R.frames := by rw [hR]; exact Nat.le_of_ble_eq_true rfl
  have hRl : 43 ≤ R.locals := by rw [hR]; exact Nat.le_of_ble_eq_true rfl
  have hRc : 0 ≤ R.cells := by rw [hR]; exact Nat.le_of_ble_eq_true rfl
  have hRs : 0 ≤ R.slots := by rw [hR]; exact Nat.le_of_ble_eq_true rfl
  have hF : fr K L [73] M M := fr.rf
  have hl : lv_has ls 4 [(0, .ref xa), (1, .int k1), (2, .long k2)] := hl
  refine lv_iload_n hx hb dX11_sheet_0 rfl (lv_at hl 1 rfl) ?_
  refine lv_if_lt (tgt := 13) hx hb dX11_sheet_1 (by decide) (fun c_1 => ?_) (fun c_1 => ?_)
  · have hz := rfl (a := 0)
    refine lv_aload_n hx hb dX11_sheet_13 rfl (lv_at hl 0 rfl) ?_
    refine lv_iconst (v := 2) hx hb dX11_sheet_14 (by decide) ?_
    have hPc := hP.sub (ws' := [(xa, (b11_1 x0 (nI x1) x2 (nI x3) x4 x5 x6 x7 x8 x9 x10))]) [0] rfl
    have hDc := hD.sub (ws' := [(xa, (b11_1 x0 (nI x1) x2 (nI x3) x4 x5 x6 x7 x8 x9 x10))]) [0] (by decide) rfl
    have hKc := hK.sub (tys' := []) [] rfl
    have hFc := va_free (wc := [(xa, (b11_1 x0 (nI x1) x2 (nI x3) x4 x5 x6 x7 x8 x9 x10))]) hD hS hA [0] rfl
    refine va_calli (va_runV (As := [.int 2]) (rest := []) ⟨hx, hb, hml, hown, hg⟩ (k_refuse l D s.heap.size xa x0 (nI x1) x2 (nI x3) x4 x5 x6 x7 x8 x9 x10 2) (cwV 1 hg (gV wd_344 wd_345 wd_346 wd_3 wd_347) rfl rfl rfl (by decide +kernel) ⟨(Nat.le_trans (Nat.le_of_ble_eq_true rfl) hRf), (Nat.le_trans (Nat.le_of_ble_eq_true rfl) hRl)⟩) ⟨Pr.blind, va_recv hK hP (ci := 11) (q0 := 0) rfl rfl, fun U hU hW => ⟨rfl, Pr.at hPc hKc hDc hN hU hW⟩⟩ rfl rfl hl.1 rfl (lv_room (Nat.le_of_ble_eq_true rfl)) dX11_sheet_15 ⟨(Nat.le_trans (Nat.le_of_ble_eq_true rfl) hRc), (Nat.le_trans (Nat.le_of_ble_eq_true rfl) hRs)⟩) hS (fun q _ h => hFc q h) hFc (fun r_3 M_4 t H_2 locs ht hvm hw hB hz1 hk1 hS => ?_)
    have hp_5 := hw
    obtain ⟨hP1, hK1, hD1⟩ := hB
    rw [ht] at hP1
    obtain ⟨hP, hD⟩ := va_joinQ (X := [(xa, (b11_1 x0 (nI x1) x2 (nI x3) x4 x5 x6 x7 x8 x9 x10))]) (cx := [(xa, (b11_1 x0 (nI x1) x2 (nI x3) x4 x5 x6 x7 x8 x9 x10))]) (wr := []) (w1 := [(xa, (b11_1 x0 (nI x1) x2 (nI x3) x4 x5 x6 x7 x8 2 (-1)))]) (pl := va_pl L M) hP hD [0] [] rfl rfl (by decide) (by decide) hk1 hFc hP1 hD1
    have hP : va_P D vwCl ([(xa, (b11_1 x0 (nI x1) x2 (nI x3) x4 x5 x6 x7 x8 2 (-1)))] ++ va_pl L M) H_2 := hP
    have hD : va_D A ([(xa, (b11_1 x0 (nI x1) x2 (nI x3) x4 x5 x6 x7 x8 2 (-1)))] ++ va_pl L M) := hD
    have hq := Eq.symm hp_5
    subst hq
    rw [hQ]
    exact W.iret (v := (-1)) hx hb hr (fun t ht hW9 => ⟨⟨(-1), M, rfl, ⟨hW, hF, (Or.inl rfl)⟩, ⟨2, by rw [ht]; exact hP, hD⟩⟩, hS.F ht⟩) hS.2.2 dX11_sheet_18
  · have hz := rfl (a := 0)
    refine lv_iload_n hx hb dX11_sheet_4 rfl (lv_at hl 1 rfl) ?_
    refine lv_aload_n hx hb dX11_sheet_5 rfl (lv_at hl 0 rfl) ?_
    refine va_get (D := D) (ci := 11) (v := .ref x8) (C := RX11) (T := TX11) (N := 11) hx hb hg inG11 hown hK hP 0 rfl rfl 8 (by decide) (hg _ wd_517) (fun _ h9 => h9) rfl dX11_sheet_6 ?_
    obtain ⟨f6, hM6⟩ := hW.open_73 i8
    refine pg_alen (v := 25) hx hb hK hP i8.1 1 hM6 rfl (by rfl) dX11_sheet_9 ?_
    refine lv_icmp_lt (tgt := 19) hx hb dX11_sheet_10 (by decide) (fun c_7 => ?_) (fun c_7 => ?_)
    · have hz := rfl (a := 0)
      refine lv_aload_n hx hb dX11_sheet_19 rfl (lv_at hl 0 rfl) ?_
      refine va_get (D := D) (ci := 11) (v := .ref x8) (C := RX11) (T := TX11) (N := 11) hx hb hg inG11 hown hK hP 0 rfl rfl 8 (by decide) (hg _ wd_517) (fun _ h9 => h9) rfl dX11_sheet_20 ?_
      refine lv_iload_n hx hb dX11_sheet_23 rfl (lv_at hl 1 rfl) ?_
      refine lv_lload_n hx hb dX11_sheet_24 rfl (lv_at hl 2 rfl) ?_
      refine pg_last hx hb hK hP hD hS i8.1 1 hM6 rfl (inbL k1 25 (by omega) c_1 c_7) dX11_sheet_25 (fun H_8 locs hP hD hS => ?_)
      obtain ⟨M_9, eM_9⟩ : ∃ M1 : Hp, M1 = va_up M x8 (.inl (cy 15, 25, .inr (.inl (vp_updL f6 (k1 : Int32).toNatClampNeg k2)))) := ⟨_, rfl⟩
      have hP : va_P D vwCl ([(xa, (b11_1 x0 (nI x1) x2 (nI x3) x4 x5 x6 x7 x8 x9 x10))] ++ va_pl L M_9) H_8 := by rw [eM_9]; exact hP
      have hD : va_D A ([(xa, (b11_1 x0 (nI x1) x2 (nI x3) x4 x5 x6 x7 x8 x9 x10))] ++ va_pl L M_9) := by rw [eM_9]; exact hD
      have hW : WOK cy K L M_9 := by rw [eM_9]; exact hW.up_73 i8 ⟨_, rfl⟩
      have hF : fr K L [73] M M_9 := by rw [eM_9]; exact hF.up i8 (by decide)
      have hM_10 : M_9 x8 = .inl (cy 15, 25, .inr (.inl (vp_updL f6 (k1 : Int32).toNatClampNeg k2))) := by rw [eM_9]; exact va_up_self _ _ _
      obtain ⟨f_11, ef_11⟩ : ∃ f : Nat → Int64, f = vp_updL f6 (k1 : Int32).toNatClampNeg k2 := ⟨_, rfl⟩
      rw [← ef_11] at hM_10
      clear ef_11
      refine lv_aload_n hx hb dX11_sheet_26 rfl (lv_at hl 0 rfl) ?_
      refine lv_iconst (v := 1) hx hb dX11_sheet_27 (by decide) ?_
      have hPc := hP.sub (ws' := [(xa, (b11_1 x0 (nI x1) x2 (nI x3) x4 x5 x6 x7 x8 x9 x10))]) [0] rfl
      have hDc := hD.sub (ws' := [(xa, (b11_1 x0 (nI x1) x2 (nI x3) x4 x5 x6 x7 x8 x9 x10))]) [0] (by decide) rfl
      have hKc := hK.sub (tys' := []) [] rfl
      have hFc := va_free (wc := [(xa, (b11_1 x0 (nI x1) x2 (nI x3) x4 x5 x6 x7 x8 x9 x10))]) hD hS hA [0] rfl
      refine va_calli (va_runV (As := [.int 1]) (rest := []) ⟨hx, hb, hml, hown, hg⟩ (k_accept l D H_8.size xa x0 (nI x1) x2 (nI x3) x4 x5 x6 x7 x8 x9 x10 1) (cwV 1 hg (gV wd_356 wd_357 wd_358 wd_3 wd_359) rfl rfl rfl (by decide +kernel) ⟨(Nat.le_trans (Nat.le_of_ble_eq_true rfl) hRf), (Nat.le_trans (Nat.le_of_ble_eq_true rfl) hRl)⟩) ⟨Pr.blind, va_recv hK hP (ci := 11) (q0 := 0) rfl rfl, fun U hU hW => ⟨rfl, Pr.at hPc hKc hDc hN hU hW⟩⟩ rfl rfl hl.1 rfl (lv_room (Nat.le_of_ble_eq_true rfl)) dX11_sheet_28 ⟨(Nat.le_trans (Nat.le_of_ble_eq_true rfl) hRc), (Nat.le_trans (Nat.le_of_ble_eq_true rfl) hRs)⟩) hS (fun q _ h => hFc q h) hFc (fun r_13 M_14 t H_12 locs ht hvm hw hB hz1 hk1 hS => ?_)
      have hp_15 := hw
      obtain ⟨hP1, hK1, hD1⟩ := hB
      rw [ht] at hP1
      obtain ⟨hP, hD⟩ := va_joinQ (X := [(xa, (b11_1 x0 (nI x1) x2 (nI x3) x4 x5 x6 x7 x8 x9 x10))]) (cx := [(xa, (b11_1 x0 (nI x1) x2 (nI x3) x4 x5 x6 x7 x8 x9 x10))]) (wr := []) (w1 := [(xa, (b11_1 x0 (nI x1) x2 (nI x3) x4 x5 x6 x7 x8 0 (-1)))]) (pl := va_pl L M_9) hP hD [0] [] rfl rfl (by decide) (by decide) hk1 hFc hP1 hD1
      have hP : va_P D vwCl ([(xa, (b11_1 x0 (nI x1) x2 (nI x3) x4 x5 x6 x7 x8 0 (-1)))] ++ va_pl L M_9) H_12 := hP
      have hD : va_D A ([(xa, (b11_1 x0 (nI x1) x2 (nI x3) x4 x5 x6 x7 x8 0 (-1)))] ++ va_pl L M_9) := hD
      have hq := Eq.symm hp_15
      subst hq
      rw [hQ]
      exact W.iret (v := 1) hx hb hr (fun t ht hW9 => ⟨⟨1, M_9, rfl, ⟨hW, hF, (Or.inr rfl)⟩, ⟨0, by rw [ht]; exact hP, hD⟩⟩, hS.F ht⟩) hS.2.2 dX11_sheet_31
    · have hz := rfl (a := 0)
      refine lv_aload_n hx hb dX11_sheet_13 rfl (lv_at hl 0 rfl) ?_
      refine lv_iconst (v := 2) hx hb dX11_sheet_14 (by decide) ?_
      have hPc := hP.sub (ws' := [(xa, (b11_1 x0 (nI x1) x2 (nI x3) x4 x5 x6 x7 x8 x9 x10))]) [0] rfl
      have hDc := hD.sub (ws' := [(xa, (b11_1 x0 (nI x1) x2 (nI x3) x4 x5 x6 x7 x8 x9 x10))]) [0] (by decide) rfl
      have hKc := hK.sub (tys' := []) [] rfl
      have hFc := va_free (wc := [(xa, (b11_1 x0 (nI x1) x2 (nI x3) x4 x5 x6 x7 x8 x9 x10))]) hD hS hA [0] rfl
      refine va_calli (va_runV (As := [.int 2]) (rest := []) ⟨hx, hb, hml, hown, hg⟩ (k_refuse l D s.heap.size xa x0 (nI x1) x2 (nI x3) x4 x5 x6 x7 x8 x9 x10 2) (cwV 1 hg (gV wd_344 wd_345 wd_346 wd_3 wd_347) rfl rfl rfl (by decide +kernel) ⟨(Nat.le_trans (Nat.le_of_ble_eq_true rfl) hRf), (Nat.le_trans (Nat.le_of_ble_eq_true rfl) hRl)⟩) ⟨Pr.blind, va_recv hK hP (ci := 11) (q0 := 0) rfl rfl, fun U hU hW => ⟨rfl, Pr.at hPc hKc hDc hN hU hW⟩⟩ rfl rfl hl.1 rfl (lv_room (Nat.le_of_ble_eq_true rfl)) dX11_sheet_15 ⟨(Nat.le_trans (Nat.le_of_ble_eq_true rfl) hRc), (Nat.le_trans (Nat.le_of_ble_eq_true rfl) hRs)⟩) hS (fun q _ h => hFc q h) hFc (fun r_17 M_18 t H_16 locs ht hvm hw hB hz1 hk1 hS => ?_)
      have hp_19 := hw
      obtain ⟨hP1, hK1, hD1⟩ := hB
      rw [ht] at hP1
      obtain ⟨hP, hD⟩ := va_joinQ (X := [(xa, (b11_1 x0 (nI x1) x2 (nI x3) x4 x5 x6 x7 x8 x9 x10))]) (cx := [(xa, (b11_1 x0 (nI x1) x2 (nI x3) x4 x5 x6 x7 x8 x9 x10))]) (wr := []) (w1 := [(xa, (b11_1 x0 (nI x1) x2 (nI x3) x4 x5 x6 x7 x8 2 (-1)))]) (pl := va_pl L M) hP hD [0] [] rfl rfl (by decide) (by decide) hk1 hFc hP1 hD1
      have hP : va_P D vwCl ([(xa, (b11_1 x0 (nI x1) x2 (nI x3) x4 x5 x6 x7 x8 2 (-1)))] ++ va_pl L M) H_16 := hP
      have hD : va_D A ([(xa, (b11_1 x0 (nI x1) x2 (nI x3) x4 x5 x6 x7 x8 2 (-1)))] ++ va_pl L M) := hD
      have hq := Eq.symm hp_19
      subst hq
      rw [hQ]
      exact W.iret (v := (-1)) hx hb hr (fun t ht hW9 => ⟨⟨(-1), M, rfl, ⟨hW, hF, (Or.inl rfl)⟩, ⟨2, by rw [ht]; exact hP, hD⟩⟩, hS.F ht⟩) hS.2.2 dX11_sheet_18
set_option maxHeartbeats 4000000 in
set_option maxRecDepth 100000 in
theorem s_X11_check (l : Launch) (D : va_G) (cy : Nat → ClassId) (K : Kp) (L : List Nat) (M : Hp) (sz : Nat) (xa : Nat) (x0 : Nat) (x1 : Nat) (x2 : Nat) (x3 : Nat) (x4 : Nat) (x5 : Nat) (x6 : Nat) (x7 : Int32) (x8 : Nat) (x9 : Int32) (x10 : Int32) (k1 : Int32) (hW : WOK cy K L M) (i0 : isk K L x0 17 8) (b1 : x1 ≤ 8) (i2 : isk K L x2 19 40) (b3 : x3 ≤ 40) (i4 : isk K L x4 7 0) (i5 : isk K L x5 5 0) (i6 : isk K L x6 60 24) (i8 : isk K L x8 73 25) : Met l yX11_check (wsM yX11_check cX11_check 5 (some .int)) ({ frames := 2, cells := 0, slots := 0, locals := 45 }) (va_Pc [.ref xa, .int k1] (PG D cy [(xa, (b11_1 x0 (nI x1) x2 (nI x3) x4 x5 x6 x7 x8 x9 x10))] L M sz)) (va_Qi (fun (r : Int32) (_ : Unit) => True) (fun _ t => ∃ (w9 : Int32), PQ D [(xa, (b11_1 x0 (nI x1) x2 (nI x3) x4 x5 x6 x7 x8 w9 (-1)))] L M (va_A ([(xa, (b11_1 x0 (nI x1) x2 (nI x3) x4 x5 x6 x7 x8 x9 x10))] ++ va_pl L M) sz) t) (va_A ([(xa, (b11_1 x0 (nI x1) x2 (nI x3) x4 x5 x6 x7 x8 x9 x10))] ++ va_pl L M) sz)) 0 0 (va_A ([(xa, (b11_1 x0 (nI x1) x2 (nI x3) x4 x5 x6 x7 x8 x9 x10))] ++ va_pl L M) sz) := by
  refine Met.ofW (cc := cX11_check) (maxL := 5) (ret := (some .int)) (by decide) rfl ?_
  intro p e s m args below meth c s₁ B hml hv
  obtain ⟨rfl, hsz, hP, hK, hD0, hN⟩ := hv
  have hx := B.exec
  have hb := B.bytes
  have hr := B.returns
  have hts := atoms_spec (ws := (wsM yX11_check cX11_check 5 (some .int))) B.pre
  have hg : ∀ w ∈ lw_good, w.before _ s = true := fun w h => hts w (List.mem_cons_of_mem _ h)
  have hown : s.vm.findClass RX11 = some m.cls := findClass_of_methodNamed B.named
  have hlocks := B.notSynchronized
  subst hsz
  have hD := hD0.self (sz := s.heap.size)
  generalize hAe : va_A ([(xa, (b11_1 x0 (nI x1) x2 (nI x3) x4 x5 x6 x7 x8 x9 x10))] ++ va_pl L M) s.heap.size = A at hD ⊢
  have hA : ∀ q : Nat, s.heap.size ≤ q → A q := fun q h => by rw [← hAe]; exact Or.inr h
  have hS : va_S A s.heap s.heap [] := va_S.rf
  have hl := lv_entry ([.ref xa, .int k1]) (n := 5) (Nat.le_of_ble_eq_true rfl)
  rw [lg_entry_eq]
  generalize (lg_sl ([.ref xa, .int k1]) ++ List.replicate (5 - (lg_sl ([.ref xa, .int k1])).length) Slot.unset).toArray = ls at hl ⊢
  refine W.nameQ (fun Q hQ => ?_)
  refine W.nameR (fun R hR => ?_)
  have hRf : 2 ≤ R.frames := by rw [hR]; exact Nat.le_of_ble_eq_true rfl
  have hRl : 45 ≤ R.locals := by rw [hR]; exact Nat.le_of_ble_eq_true rfl
  have hRc : 0 ≤ R.cells := by rw [hR]; exact Nat.le_of_ble_eq_true rfl
  have hRs : 0 ≤ R.slots := by rw [hR]; exact Nat.le_of_ble_eq_true rfl
  have hl : lv_has ls 5 [(0, .ref xa), (1, .int k1)] := hl
  refine lv_aload_n hx hb dX11_check_0 rfl (lv_at hl 0 rfl) ?_
  refine lv_iload_n hx hb dX11_check_1 rfl (lv_at hl 1 rfl) ?_
  have hPc : va_P D vwCl ([(xa, (b11_1 x0 (nI x1) x2 (nI x3) x4 x5 x6 x7 x8 x9 x10))] ++ va_pl L M) s.heap := hP
  have hDc : va_D A ([(xa, (b11_1 x0 (nI x1) x2 (nI x3) x4 x5 x6 x7 x8 x9 x10))] ++ va_pl L M) := hD
  have hFc : ∀ q, va_A ([(xa, (b11_1 x0 (nI x1) x2 (nI x3) x4 x5 x6 x7 x8 x9 x10))] ++ va_pl L M) s.heap.size q → A q := pg_free hDc hS hA
  refine va_callq (va_runV (As := [.int k1]) (rest := []) ⟨hx, hb, hml, hown, hg⟩ (s_X11_houseAt l D cy K L M s.heap.size xa x0 x1 x2 x3 x4 x5 x6 x7 x8 x9 x10 k1  hW i0 b1 i2 b3 i4 i5 i6 i8) (cwV 1 hg (gV wd_340 wd_341 wd_342 wd_3 wd_343) rfl rfl rfl (by decide +kernel) ⟨(Nat.le_trans (Nat.le_of_ble_eq_true rfl) hRf), (Nat.le_trans (Nat.le_of_ble_eq_true rfl) hRl)⟩) ⟨PG.blind, va_recv hK hP (ci := 11) (q0 := 0) rfl rfl, fun U hU hW => ⟨rfl, PG.at hPc hK hDc hN hU hW⟩⟩ rfl rfl hl.1 rfl (lv_room (Nat.le_of_ble_eq_true rfl)) dX11_check_2 ⟨(Nat.le_trans (Nat.le_of_ble_eq_true rfl) hRc), (Nat.le_trans (Nat.le_of_ble_eq_true rfl) hRs)⟩) hS (fun q _ h => hFc q h) hFc (fun r_2 M_3 t H_1 locs ht hvm hw hB hz1 hk1 hS => ?_)
  have hp_4 := hw
  obtain ⟨hP1, hD1⟩ := hB
  rw [ht] at hP1
  have hP : va_P D vwCl ([(xa, (b11_1 x0 (nI x1) x2 (nI x3) x4 x5 x6 x7 x8 x9 x10))] ++ va_pl L M) H_1 := hP1
  have hD : va_D A ([(xa, (b11_1 x0 (nI x1) x2 (nI x3) x4 x5 x6 x7 x8 x9 x10))] ++ va_pl L M) := hD1.mono hFc
  rcases r_2 with _ | b_5
  · have hz := rfl (a := 0)
    refine lv_astore_nN (lv' := [(2, .null), (0, .ref xa), (1, .int k1)]) hx hb dX11_check_5 rfl hl (by decide) rfl (fun ls hl => ?_)
    refine lv_aload_nN hx hb dX11_check_6 rfl (lv_at hl 0 rfl) ?_
    refine lv_ifnullN (tgt := 17) hx hb dX11_check_7 (by decide) ?_
    refine lv_aload_n hx hb dX11_check_17 rfl (lv_at hl 1 rfl) ?_
    refine lv_iconst (v := 1) hx hb dX11_check_18 (by decide) ?_
    have hPc := hP.sub (ws' := [(xa, (b11_1 x0 (nI x1) x2 (nI x3) x4 x5 x6 x7 x8 x9 x10))]) [0] rfl
    have hDc := hD.sub (ws' := [(xa, (b11_1 x0 (nI x1) x2 (nI x3) x4 x5 x6 x7 x8 x9 x10))]) [0] (by decide) rfl
    have hKc := hK.sub (tys' := []) [] rfl
    have hFc := va_free (wc := [(xa, (b11_1 x0 (nI x1) x2 (nI x3) x4 x5 x6 x7 x8 x9 x10))]) hD hS hA [0] rfl
    refine va_calli (va_runV (As := [.int 1]) (rest := []) ⟨hx, hb, hml, hown, hg⟩ (k_refuse l D H_1.size xa x0 (nI x1) x2 (nI x3) x4 x5 x6 x7 x8 x9 x10 1) (cwV 1 hg (gV wd_344 wd_345 wd_346 wd_3 wd_347) rfl rfl rfl (by decide +kernel) ⟨(Nat.le_trans (Nat.le_of_ble_eq_true rfl) hRf), (Nat.le_trans (Nat.le_of_ble_eq_true rfl) hRl)⟩) ⟨Pr.blind, va_recv hK hP (ci := 11) (q0 := 0) rfl rfl, fun U hU hW => ⟨rfl, Pr.at hPc hKc hDc hN hU hW⟩⟩ rfl rfl hl.1 rfl (lv_room (Nat.le_of_ble_eq_true rfl)) dX11_check_19 ⟨(Nat.le_trans (Nat.le_of_ble_eq_true rfl) hRc), (Nat.le_trans (Nat.le_of_ble_eq_true rfl) hRs)⟩) hS (fun q _ h => hFc q h) hFc (fun r_7 M_8 t H_6 locs ht hvm hw hB hz1 hk1 hS => ?_)
    have hp_9 := hw
    obtain ⟨hP1, hK1, hD1⟩ := hB
    rw [ht] at hP1
    obtain ⟨hP, hD⟩ := va_joinQ (X := [(xa, (b11_1 x0 (nI x1) x2 (nI x3) x4 x5 x6 x7 x8 x9 x10))]) (cx := [(xa, (b11_1 x0 (nI x1) x2 (nI x3) x4 x5 x6 x7 x8 x9 x10))]) (wr := []) (w1 := [(xa, (b11_1 x0 (nI x1) x2 (nI x3) x4 x5 x6 x7 x8 1 (-1)))]) (pl := va_pl L M) hP hD [0] [] rfl rfl (by decide) (by decide) hk1 hFc hP1 hD1
    have hP : va_P D vwCl ([(xa, (b11_1 x0 (nI x1) x2 (nI x3) x4 x5 x6 x7 x8 1 (-1)))] ++ va_pl L M) H_6 := hP
    have hD : va_D A ([(xa, (b11_1 x0 (nI x1) x2 (nI x3) x4 x5 x6 x7 x8 1 (-1)))] ++ va_pl L M) := hD
    have hq := Eq.symm hp_9
    subst hq
    rw [hQ]
    exact W.iret (v := (-1)) hx hb hr (fun t ht hW9 => ⟨⟨(-1), (), rfl, trivial, ⟨1, by rw [ht]; exact hP, hD⟩⟩, hS.F ht⟩) hS.2.2 dX11_check_22
  · have hb_10 := hp_4 b_5 rfl
    refine lv_astore_n (lv' := [(2, .ref b_5), (0, .ref xa), (1, .int k1)]) hx hb dX11_check_5 rfl hl (by decide) rfl (fun ls hl => ?_)
    refine lv_aload_n hx hb dX11_check_6 rfl (lv_at hl 0 rfl) ?_
    refine lv_ifnull hx hb dX11_check_7 ?_
    refine lv_aload_n hx hb dX11_check_10 rfl (lv_at hl 0 rfl) ?_
    obtain ⟨v11_0, v11_1, v11_2, v11_3, v11_4, v11_5, v11_6, v11_7, v11_8, v11_9, v11_10, v11_11, v11_12, v11_13, v11_14, v11_15, v11_16, v11_17, v11_18, v11_19, hM11, h11_3, h11_4, h11_5, h11_6, h11_7, h11_8, h11_9, h11_10, h11_11, h11_12, h11_13, h11_16, h11_17, h11_18, h11_19⟩ := hW.open_2 hb_10
    refine pg_get (D := D) (ci := 2) (v := .int (nI v11_5)) (C := RX2) (T := TX2) (N := 20) hx hb hg inG2 hown hK hP hb_10.1 hM11 rfl 5 (by decide) (hg _ wd_518) (fun _ h9 => h9) rfl dX11_check_11 ?_
    refine lv_if_ne (tgt := 23) hx hb dX11_check_14 (by decide) (fun c_12 => ?_) (fun c_12 => ?_)
    · have hz := rfl (a := 0)
      have n_13 : ¬ (v11_5 = 0) := fun q => c_12 ((iEQ (a := v11_5) (b := 0) (by omega) (by omega)).mpr q)
      refine lv_iconst (v := 0) hx hb dX11_check_23 (by decide) ?_
      refine lv_istore_n (lv' := [(3, .int 0), (2, .ref b_5), (0, .ref xa), (1, .int k1)]) hx hb dX11_check_24 rfl hl (by decide) rfl (fun ls hl => ?_)
      have key_14 : ∀ (fu_16 : Nat) (v3w17 : Nat) (H_19 : Heap) (locs : List Loc) (ls : Array Slot), 24 - v3w17 < fu_16 → v3w17 ≤ 24 → WOK cy K L M → va_P D vwCl ([(xa, (b11_1 x0 (nI x1) x2 (nI x3) x4 x5 x6 x7 x8 x9 x10))] ++ va_pl L M) H_19 → va_D A ([(xa, (b11_1 x0 (nI x1) x2 (nI x3) x4 x5 x6 x7 x8 x9 x10))] ++ va_pl L M) → va_S A s.heap H_19 locs → lv_has ls 5 [(3, .int (nI v3w17)), (2, .ref b_5), (0, .ref xa), (1, .int k1)] → W p l e R s m ([.ref xa, .int k1] : List Value).toArray below meth c H_19 locs 0 0 Q (F0 m 25 ls []) := by
        intro fu_16
        induction fu_16 with
        | zero => intro v3w17 H_19 locs ls h; exact absurd h (Nat.not_lt_zero _)
        | succ fu_16 ih_15 =>
          intro v3w17 H_19 locs ls hfu hx_18 hW hP hD hS hl
          refine lv_iload_n hx hb dX11_check_25 rfl (lv_at hl 0 rfl) ?_
          refine lv_bipush (v := 24) hx hb dX11_check_26 (by decide) ?_
          refine lv_icmp_ge (tgt := 74) hx hb dX11_check_28 (by decide) (fun c_20 => ?_) (fun c_20 => ?_)
          · have hz := rfl (a := 0)
            have n_21 : 24 ≤ v3w17 := (iLE (a := 24) (b := v3w17) (by omega) (by omega)).mp c_20
            refine lv_aload_n hx hb dX11_check_74 rfl (lv_at hl 2 rfl) ?_
            refine lv_aload_n hx hb dX11_check_75 rfl (lv_at hl 2 rfl) ?_
            refine va_get (D := D) (ci := 11) (v := .ref x8) (C := RX11) (T := TX11) (N := 11) hx hb hg inG11 hown hK hP 0 rfl rfl 8 (by decide) (hg _ wd_517) (fun _ h9 => h9) rfl dX11_check_76 ?_
            refine lv_bipush (v := 24) hx hb dX11_check_79 (by decide) ?_
            obtain ⟨f22, hM22⟩ := hW.open_73 i8
            refine pg_lald hx hb hK hP i8.1 1 hM22 rfl (inbN 24 25 (by omega) (by omega)) dX11_check_81 ?_
            refine lv_topl (fun f_23 ef_23 => ?_)
            refine lv_aload_n hx hb dX11_check_82 rfl (lv_at hl 1 rfl) ?_
            refine pg_get (D := D) (ci := 2) (v := .ref v11_19) (C := RX2) (T := TX2) (N := 20) hx hb hg inG2 hown hK hP hb_10.1 hM11 rfl 19 (by decide) (hg _ wd_496) (fun _ h9 => h9) rfl dX11_check_83 ?_
            obtain ⟨v24_0, v24_1, v24_2, v24_3, v24_4, hM24, h24_0, h24_1, h24_2, h24_3⟩ := hW.open_0 h11_19
            have hPc : va_P D vwCl ([] ++ va_pl L M) H_19 := hP.part (cx := []) [] rfl
            have hDc : va_D A ([] ++ va_pl L M) := hD.part (cx := []) [] (by decide) rfl
            have hFc : ∀ q, va_A ([] ++ va_pl L M) H_19.size q → A q := pg_free hDc hS hA
            refine va_calll (va_runV (As := []) (rest := [.long f_23, .ref xa]) ⟨hx, hb, hml, hown, hg⟩ (s_X0_nobodyOfLatest l D cy K L M H_19.size v11_19  hW h11_19) (cwV 0 hg (gV wd_519 wd_520 wd_521 wd_204 wd_522) rfl rfl rfl (by decide +kernel) ⟨(Nat.le_trans (Nat.le_of_ble_eq_true rfl) hRf), (Nat.le_trans (Nat.le_of_ble_eq_true rfl) hRl)⟩) ⟨PG.blind, pg_recv hK hP h11_19.1 hM24 rfl, fun U hU hW => ⟨rfl, PG.at hPc hK hDc hN hU hW⟩⟩ rfl rfl hl.1 rfl (lv_room (Nat.le_of_ble_eq_true rfl)) dX11_check_86 ⟨(Nat.le_trans (Nat.le_of_ble_eq_true rfl) hRc), (Nat.le_trans (Nat.le_of_ble_eq_true rfl) hRs)⟩) hS (fun q _ h => hFc q h) hFc (fun r_26 M_27 t H_25 locs ht hvm hw hB hz1 hk1 hS => ?_)
            have hp_28 := hw
            obtain ⟨hP1, hD1⟩ := hB
            rw [ht] at hP1
            obtain ⟨hP, hD⟩ := va_joinP (X := [(xa, (b11_1 x0 (nI x1) x2 (nI x3) x4 x5 x6 x7 x8 x9 x10))]) (cx := []) (wr := [(xa, (b11_1 x0 (nI x1) x2 (nI x3) x4 x5 x6 x7 x8 x9 x10))]) (rx := []) (pl := va_pl L M) (pl1 := va_pl L M) hP hD [] [0] rfl rfl (by decide) (by decide) hk1 hFc hP1 hD1
            have hP : va_P D vwCl ([(xa, (b11_1 x0 (nI x1) x2 (nI x3) x4 x5 x6 x7 x8 x9 x10))] ++ va_pl L M) H_25 := hP
            have hD : va_D A ([(xa, (b11_1 x0 (nI x1) x2 (nI x3) x4 x5 x6 x7 x8 x9 x10))] ++ va_pl L M) := hD
            refine W.lcmp hx hb dX11_check_89 ?_
            refine lv_if_ne (tgt := 98) hx hb dX11_check_90 (by decide) (fun c_29 => ?_) (fun c_29 => ?_)
            · have hz := rfl (a := 0)
              refine lv_bipush (v := 24) hx hb dX11_check_98 (by decide) ?_
              have hPc := hP.sub (ws' := [(xa, (b11_1 x0 (nI x1) x2 (nI x3) x4 x5 x6 x7 x8 x9 x10))]) [0] rfl
              have hDc := hD.sub (ws' := [(xa, (b11_1 x0 (nI x1) x2 (nI x3) x4 x5 x6 x7 x8 x9 x10))]) [0] (by decide) rfl
              have hKc := hK.sub (tys' := []) [] rfl
              have hFc := va_free (wc := [(xa, (b11_1 x0 (nI x1) x2 (nI x3) x4 x5 x6 x7 x8 x9 x10))]) hD hS hA [0] rfl
              refine va_calli (va_runV (As := [.int 24]) (rest := []) ⟨hx, hb, hml, hown, hg⟩ (k_accept l D H_25.size xa x0 (nI x1) x2 (nI x3) x4 x5 x6 x7 x8 x9 x10 24) (cwV 1 hg (gV wd_356 wd_357 wd_358 wd_3 wd_359) rfl rfl rfl (by decide +kernel) ⟨(Nat.le_trans (Nat.le_of_ble_eq_true rfl) hRf), (Nat.le_trans (Nat.le_of_ble_eq_true rfl) hRl)⟩) ⟨Pr.blind, va_recv hK hP (ci := 11) (q0 := 0) rfl rfl, fun U hU hW => ⟨rfl, Pr.at hPc hKc hDc hN hU hW⟩⟩ rfl rfl hl.1 rfl (lv_room (Nat.le_of_ble_eq_true rfl)) dX11_check_100 ⟨(Nat.le_trans (Nat.le_of_ble_eq_true rfl) hRc), (Nat.le_trans (Nat.le_of_ble_eq_true rfl) hRs)⟩) hS (fun q _ h => hFc q h) hFc (fun r_32 M_33 t H_31 locs ht hvm hw hB hz1 hk1 hS => ?_)
              have hp_34 := hw
              obtain ⟨hP1, hK1, hD1⟩ := hB
              rw [ht] at hP1
              obtain ⟨hP, hD⟩ := va_joinQ (X := [(xa, (b11_1 x0 (nI x1) x2 (nI x3) x4 x5 x6 x7 x8 x9 x10))]) (cx := [(xa, (b11_1 x0 (nI x1) x2 (nI x3) x4 x5 x6 x7 x8 x9 x10))]) (wr := []) (w1 := [(xa, (b11_1 x0 (nI x1) x2 (nI x3) x4 x5 x6 x7 x8 0 (-1)))]) (pl := va_pl L M) hP hD [0] [] rfl rfl (by decide) (by decide) hk1 hFc hP1 hD1
              have hP : va_P D vwCl ([(xa, (b11_1 x0 (nI x1) x2 (nI x3) x4 x5 x6 x7 x8 0 (-1)))] ++ va_pl L M) H_31 := hP
              have hD : va_D A ([(xa, (b11_1 x0 (nI x1) x2 (nI x3) x4 x5 x6 x7 x8 0 (-1)))] ++ va_pl L M) := hD
              have hq := Eq.symm hp_34
              subst hq
              rw [hQ]
              exact W.iret (v := 24) hx hb hr (fun t ht hW9 => ⟨⟨24, (), rfl, trivial, ⟨0, by rw [ht]; exact hP, hD⟩⟩, hS.F ht⟩) hS.2.2 dX11_check_103
            · have hz := rfl (a := 0)
              refine lv_bipush (v := (-2)) hx hb dX11_check_93 (by decide) ?_
              refine lv_goto (tgt := 100) hx hb dX11_check_95 (by decide) ?_
              have hPc := hP.sub (ws' := [(xa, (b11_1 x0 (nI x1) x2 (nI x3) x4 x5 x6 x7 x8 x9 x10))]) [0] rfl
              have hDc := hD.sub (ws' := [(xa, (b11_1 x0 (nI x1) x2 (nI x3) x4 x5 x6 x7 x8 x9 x10))]) [0] (by decide) rfl
              have hKc := hK.sub (tys' := []) [] rfl
              have hFc := va_free (wc := [(xa, (b11_1 x0 (nI x1) x2 (nI x3) x4 x5 x6 x7 x8 x9 x10))]) hD hS hA [0] rfl
              refine va_calli (va_runV (As := [.int (-2)]) (rest := []) ⟨hx, hb, hml, hown, hg⟩ (k_accept l D H_25.size xa x0 (nI x1) x2 (nI x3) x4 x5 x6 x7 x8 x9 x10 (-2)) (cwV 1 hg (gV wd_356 wd_357 wd_358 wd_3 wd_359) rfl rfl rfl (by decide +kernel) ⟨(Nat.le_trans (Nat.le_of_ble_eq_true rfl) hRf), (Nat.le_trans (Nat.le_of_ble_eq_true rfl) hRl)⟩) ⟨Pr.blind, va_recv hK hP (ci := 11) (q0 := 0) rfl rfl, fun U hU hW => ⟨rfl, Pr.at hPc hKc hDc hN hU hW⟩⟩ rfl rfl hl.1 rfl (lv_room (Nat.le_of_ble_eq_true rfl)) dX11_check_100 ⟨(Nat.le_trans (Nat.le_of_ble_eq_true rfl) hRc), (Nat.le_trans (Nat.le_of_ble_eq_true rfl) hRs)⟩) hS (fun q _ h => hFc q h) hFc (fun r_36 M_37 t H_35 locs ht hvm hw hB hz1 hk1 hS => ?_)
              have hp_38 := hw
              obtain ⟨hP1, hK1, hD1⟩ := hB
              rw [ht] at hP1
              obtain ⟨hP, hD⟩ := va_joinQ (X := [(xa, (b11_1 x0 (nI x1) x2 (nI x3) x4 x5 x6 x7 x8 x9 x10))]) (cx := [(xa, (b11_1 x0 (nI x1) x2 (nI x3) x4 x5 x6 x7 x8 x9 x10))]) (wr := []) (w1 := [(xa, (b11_1 x0 (nI x1) x2 (nI x3) x4 x5 x6 x7 x8 0 (-1)))]) (pl := va_pl L M) hP hD [0] [] rfl rfl (by decide) (by decide) hk1 hFc hP1 hD1
              have hP : va_P D vwCl ([(xa, (b11_1 x0 (nI x1) x2 (nI x3) x4 x5 x6 x7 x8 0 (-1)))] ++ va_pl L M) H_35 := hP
              have hD : va_D A ([(xa, (b11_1 x0 (nI x1) x2 (nI x3) x4 x5 x6 x7 x8 0 (-1)))] ++ va_pl L M) := hD
              have hq := Eq.symm hp_38
              subst hq
              rw [hQ]
              exact W.iret (v := (-2)) hx hb hr (fun t ht hW9 => ⟨⟨(-2), (), rfl, trivial, ⟨0, by rw [ht]; exact hP, hD⟩⟩, hS.F ht⟩) hS.2.2 dX11_check_103
          · have hz := rfl (a := 0)
            have n_39 : ¬ (24 ≤ v3w17) := fun q => c_20 ((iLE (a := 24) (b := v3w17) (by omega) (by omega)).mpr q)
            refine lv_aload_n hx hb dX11_check_31 rfl (lv_at hl 1 rfl) ?_
            refine lv_iload_n hx hb dX11_check_32 rfl (lv_at hl 0 rfl) ?_
            have hPc : va_P D vwCl ([] ++ va_pl L M) H_19 := hP.part (cx := []) [] rfl
            have hDc : va_D A ([] ++ va_pl L M) := hD.part (cx := []) [] (by decide) rfl
            have hFc : ∀ q, va_A ([] ++ va_pl L M) H_19.size q → A q := pg_free hDc hS hA
            refine va_callq (va_runV (As := [.int (nI v3w17)]) (rest := []) ⟨hx, hb, hml, hown, hg⟩ (s_X2_tenureAt l D cy K L M H_19.size b_5 (nI v3w17)  hW hb_10) (cwV 1 hg (gV wd_405 wd_55 wd_56 wd_57 wd_58) rfl rfl rfl (by decide +kernel) ⟨(Nat.le_trans (Nat.le_of_ble_eq_true rfl) hRf), (Nat.le_trans (Nat.le_of_ble_eq_true rfl) hRl)⟩) ⟨PG.blind, pg_recv hK hP hb_10.1 hM11 rfl, fun U hU hW => ⟨rfl, PG.at hPc hK hDc hN hU hW⟩⟩ rfl rfl hl.1 rfl (lv_room (Nat.le_of_ble_eq_true rfl)) dX11_check_33 ⟨(Nat.le_trans (Nat.le_of_ble_eq_true rfl) hRc), (Nat.le_trans (Nat.le_of_ble_eq_true rfl) hRs)⟩) hS (fun q _ h => hFc q h) hFc (fun r_41 M_42 t H_40 locs ht hvm hw hB hz1 hk1 hS => ?_)
            have hp_43 := hw
            obtain ⟨hP1, hD1⟩ := hB
            rw [ht] at hP1
            obtain ⟨hP, hD⟩ := va_joinP (X := [(xa, (b11_1 x0 (nI x1) x2 (nI x3) x4 x5 x6 x7 x8 x9 x10))]) (cx := []) (wr := [(xa, (b11_1 x0 (nI x1) x2 (nI x3) x4 x5 x6 x7 x8 x9 x10))]) (rx := []) (pl := va_pl L M) (pl1 := va_pl L M) hP hD [] [0] rfl rfl (by decide) (by decide) hk1 hFc hP1 hD1
            have hP : va_P D vwCl ([(xa, (b11_1 x0 (nI x1) x2 (nI x3) x4 x5 x6 x7 x8 x9 x10))] ++ va_pl L M) H_40 := hP
            have hD : va_D A ([(xa, (b11_1 x0 (nI x1) x2 (nI x3) x4 x5 x6 x7 x8 x9 x10))] ++ va_pl L M) := hD
            rcases r_41 with _ | b_44
            · have hz := rfl (a := 0)
              refine lv_astoreN (lv' := [(4, .null), (3, .int (nI v3w17)), (2, .ref b_5), (0, .ref xa), (1, .int k1)]) hx hb dX11_check_36 hl (by decide) rfl (fun ls hl => ?_)
              refine lv_aload_n hx hb dX11_check_38 rfl (lv_at hl 3 rfl) ?_
              refine va_get (D := D) (ci := 11) (v := .ref x8) (C := RX11) (T := TX11) (N := 11) hx hb hg inG11 hown hK hP 0 rfl rfl 8 (by decide) (hg _ wd_517) (fun _ h9 => h9) rfl dX11_check_39 ?_
              refine lv_iload_n hx hb dX11_check_42 rfl (lv_at hl 1 rfl) ?_
              obtain ⟨f45, hM45⟩ := hW.open_73 i8
              refine pg_lald hx hb hK hP i8.1 1 hM45 rfl (inbN v3w17 25 (by omega) (by omega)) dX11_check_43 ?_
              refine lv_topl (fun f_46 ef_46 => ?_)
              refine lv_aloadN hx hb dX11_check_44 (lv_at hl 0 rfl) ?_
              refine lv_ifnonnullN hx hb dX11_check_46 ?_
              refine lv_lconst (v := 0) hx hb dX11_check_49 (by decide) ?_
              refine lv_goto (tgt := 58) hx hb dX11_check_50 (by decide) ?_
              refine W.lcmp hx hb dX11_check_58 ?_
              refine lv_if_eq (tgt := 68) hx hb dX11_check_59 (by decide) (fun c_47 => ?_) (fun c_47 => ?_)
              · have hz := rfl (a := 0)
                refine lv_iinc (v := (nI (v3w17 + 1))) (lv' := [(3, .int (nI (v3w17 + 1))), (4, .null), (2, .ref b_5), (0, .ref xa), (1, .int k1)]) hx hb dX11_check_68 hl (k := 1) rfl (nI_1 v3w17) (by decide) rfl (fun ls hl => ?_)
                refine lv_goto (tgt := 25) hx hb dX11_check_71 (by decide) ?_
                exact ih_15 (v3w17 + 1) H_40 _ _ (by omega) (by omega) hW hP hD hS (lv_sub hl [0, 2, 3, 4] rfl)
              · have hz := rfl (a := 0)
                refine lv_aload_n hx hb dX11_check_62 rfl (lv_at hl 3 rfl) ?_
                refine lv_iload_n hx hb dX11_check_63 rfl (lv_at hl 1 rfl) ?_
                have hPc := hP.sub (ws' := [(xa, (b11_1 x0 (nI x1) x2 (nI x3) x4 x5 x6 x7 x8 x9 x10))]) [0] rfl
                have hDc := hD.sub (ws' := [(xa, (b11_1 x0 (nI x1) x2 (nI x3) x4 x5 x6 x7 x8 x9 x10))]) [0] (by decide) rfl
                have hKc := hK.sub (tys' := []) [] rfl
                have hFc := va_free (wc := [(xa, (b11_1 x0 (nI x1) x2 (nI x3) x4 x5 x6 x7 x8 x9 x10))]) hD hS hA [0] rfl
                refine va_calli (va_runV (As := [.int (nI v3w17)]) (rest := []) ⟨hx, hb, hml, hown, hg⟩ (k_accept l D H_40.size xa x0 (nI x1) x2 (nI x3) x4 x5 x6 x7 x8 x9 x10 (nI v3w17)) (cwV 1 hg (gV wd_356 wd_357 wd_358 wd_3 wd_359) rfl rfl rfl (by decide +kernel) ⟨(Nat.le_trans (Nat.le_of_ble_eq_true rfl) hRf), (Nat.le_trans (Nat.le_of_ble_eq_true rfl) hRl)⟩) ⟨Pr.blind, va_recv hK hP (ci := 11) (q0 := 0) rfl rfl, fun U hU hW => ⟨rfl, Pr.at hPc hKc hDc hN hU hW⟩⟩ rfl rfl hl.1 rfl (lv_room (Nat.le_of_ble_eq_true rfl)) dX11_check_64 ⟨(Nat.le_trans (Nat.le_of_ble_eq_true rfl) hRc), (Nat.le_trans (Nat.le_of_ble_eq_true rfl) hRs)⟩) hS (fun q _ h => hFc q h) hFc (fun r_50 M_51 t H_49 locs ht hvm hw hB hz1 hk1 hS => ?_)
                have hp_52 := hw
                obtain ⟨hP1, hK1, hD1⟩ := hB
                rw [ht] at hP1
                obtain ⟨hP, hD⟩ := va_joinQ (X := [(xa, (b11_1 x0 (nI x1) x2 (nI x3) x4 x5 x6 x7 x8 x9 x10))]) (cx := [(xa, (b11_1 x0 (nI x1) x2 (nI x3) x4 x5 x6 x7 x8 x9 x10))]) (wr := []) (w1 := [(xa, (b11_1 x0 (nI x1) x2 (nI x3) x4 x5 x6 x7 x8 0 (-1)))]) (pl := va_pl L M) hP hD [0] [] rfl rfl (by decide) (by decide) hk1 hFc hP1 hD1
                have hP : va_P D vwCl ([(xa, (b11_1 x0 (nI x1) x2 (nI x3) x4 x5 x6 x7 x8 0 (-1)))] ++ va_pl L M) H_49 := hP
                have hD : va_D A ([(xa, (b11_1 x0 (nI x1) x2 (nI x3) x4 x5 x6 x7 x8 0 (-1)))] ++ va_pl L M) := hD
                have hq := Eq.symm hp_52
                subst hq
                rw [hQ]
                exact W.iret (v := (nI v3w17)) hx hb hr (fun t ht hW9 => ⟨⟨(nI v3w17), (), rfl, trivial, ⟨0, by rw [ht]; exact hP, hD⟩⟩, hS.F ht⟩) hS.2.2 dX11_check_67
            · have hb_53 := hp_43 b_44 rfl
              refine lv_astore (lv' := [(4, .ref b_44), (3, .int (nI v3w17)), (2, .ref b_5), (0, .ref xa), (1, .int k1)]) hx hb dX11_check_36 hl (by decide) rfl (fun ls hl => ?_)
              refine lv_aload_n hx hb dX11_check_38 rfl (lv_at hl 3 rfl) ?_
              refine va_get (D := D) (ci := 11) (v := .ref x8) (C := RX11) (T := TX11) (N := 11) hx hb hg inG11 hown hK hP 0 rfl rfl 8 (by decide) (hg _ wd_517) (fun _ h9 => h9) rfl dX11_check_39 ?_
              refine lv_iload_n hx hb dX11_check_42 rfl (lv_at hl 1 rfl) ?_
              obtain ⟨f54, hM54⟩ := hW.open_73 i8
              refine pg_lald hx hb hK hP i8.1 1 hM54 rfl (inbN v3w17 25 (by omega) (by omega)) dX11_check_43 ?_
              refine lv_topl (fun f_55 ef_55 => ?_)
              refine lv_aload hx hb dX11_check_44 (lv_at hl 0 rfl) ?_
              refine lv_ifnonnull (tgt := 53) hx hb dX11_check_46 (by decide) ?_
              refine lv_aload hx hb dX11_check_53 (lv_at hl 0 rfl) ?_
              obtain ⟨v56_0, v56_1, v56_2, v56_3, v56_4, v56_5, v56_6, v56_7, v56_8, v56_9, v56_10, v56_11, v56_12, v56_13, v56_14, v56_15, hM56, h56_0, h56_1, h56_4, h56_8⟩ := hW.open_9 hb_53
              refine pg_get (D := D) (ci := 9) (v := .long v56_15) (C := RX9) (T := TX9) (N := 16) hx hb hg inG9 hown hK hP hb_53.1 hM56 rfl 15 (by decide) (hg _ wd_523) (fun _ h9 => h9) rfl dX11_check_55 ?_
              refine W.lcmp hx hb dX11_check_58 ?_
              refine lv_if_eq (tgt := 68) hx hb dX11_check_59 (by decide) (fun c_57 => ?_) (fun c_57 => ?_)
              · have hz := rfl (a := 0)
                refine lv_iinc (v := (nI (v3w17 + 1))) (lv' := [(3, .int (nI (v3w17 + 1))), (4, .ref b_44), (2, .ref b_5), (0, .ref xa), (1, .int k1)]) hx hb dX11_check_68 hl (k := 1) rfl (nI_1 v3w17) (by decide) rfl (fun ls hl => ?_)
                refine lv_goto (tgt := 25) hx hb dX11_check_71 (by decide) ?_
                exact ih_15 (v3w17 + 1) H_40 _ _ (by omega) (by omega) hW hP hD hS (lv_sub hl [0, 2, 3, 4] rfl)
              · have hz := rfl (a := 0)
                refine lv_aload_n hx hb dX11_check_62 rfl (lv_at hl 3 rfl) ?_
                refine lv_iload_n hx hb dX11_check_63 rfl (lv_at hl 1 rfl) ?_
                have hPc := hP.sub (ws' := [(xa, (b11_1 x0 (nI x1) x2 (nI x3) x4 x5 x6 x7 x8 x9 x10))]) [0] rfl
                have hDc := hD.sub (ws' := [(xa, (b11_1 x0 (nI x1) x2 (nI x3) x4 x5 x6 x7 x8 x9 x10))]) [0] (by decide) rfl
                have hKc := hK.sub (tys' := []) [] rfl
                have hFc := va_free (wc := [(xa, (b11_1 x0 (nI x1) x2 (nI x3) x4 x5 x6 x7 x8 x9 x10))]) hD hS hA [0] rfl
                refine va_calli (va_runV (As := [.int (nI v3w17)]) (rest := []) ⟨hx, hb, hml, hown, hg⟩ (k_accept l D H_40.size xa x0 (nI x1) x2 (nI x3) x4 x5 x6 x7 x8 x9 x10 (nI v3w17)) (cwV 1 hg (gV wd_356 wd_357 wd_358 wd_3 wd_359) rfl rfl rfl (by decide +kernel) ⟨(Nat.le_trans (Nat.le_of_ble_eq_true rfl) hRf), (Nat.le_trans (Nat.le_of_ble_eq_true rfl) hRl)⟩) ⟨Pr.blind, va_recv hK hP (ci := 11) (q0 := 0) rfl rfl, fun U hU hW => ⟨rfl, Pr.at hPc hKc hDc hN hU hW⟩⟩ rfl rfl hl.1 rfl (lv_room (Nat.le_of_ble_eq_true rfl)) dX11_check_64 ⟨(Nat.le_trans (Nat.le_of_ble_eq_true rfl) hRc), (Nat.le_trans (Nat.le_of_ble_eq_true rfl) hRs)⟩) hS (fun q _ h => hFc q h) hFc (fun r_60 M_61 t H_59 locs ht hvm hw hB hz1 hk1 hS => ?_)
                have hp_62 := hw
                obtain ⟨hP1, hK1, hD1⟩ := hB
                rw [ht] at hP1
                obtain ⟨hP, hD⟩ := va_joinQ (X := [(xa, (b11_1 x0 (nI x1) x2 (nI x3) x4 x5 x6 x7 x8 x9 x10))]) (cx := [(xa, (b11_1 x0 (nI x1) x2 (nI x3) x4 x5 x6 x7 x8 x9 x10))]) (wr := []) (w1 := [(xa, (b11_1 x0 (nI x1) x2 (nI x3) x4 x5 x6 x7 x8 0 (-1)))]) (pl := va_pl L M) hP hD [0] [] rfl rfl (by decide) (by decide) hk1 hFc hP1 hD1
                have hP : va_P D vwCl ([(xa, (b11_1 x0 (nI x1) x2 (nI x3) x4 x5 x6 x7 x8 0 (-1)))] ++ va_pl L M) H_59 := hP
                have hD : va_D A ([(xa, (b11_1 x0 (nI x1) x2 (nI x3) x4 x5 x6 x7 x8 0 (-1)))] ++ va_pl L M) := hD
                have hq := Eq.symm hp_62
                subst hq
                rw [hQ]
                exact W.iret (v := (nI v3w17)) hx hb hr (fun t ht hW9 => ⟨⟨(nI v3w17), (), rfl, trivial, ⟨0, by rw [ht]; exact hP, hD⟩⟩, hS.F ht⟩) hS.2.2 dX11_check_67
      exact key_14 (24 - 0 + 1) 0 H_1 _ _ (by omega) (by omega) hW hP hD hS (lv_sub hl [0, 1, 2, 3] rfl)
    · have hz := rfl (a := 0)
      have n_63 : v11_5 = 0 := (iEQ (a := v11_5) (b := 0) (by omega) (by omega)).mp c_12
      refine lv_aload_n hx hb dX11_check_17 rfl (lv_at hl 1 rfl) ?_
      refine lv_iconst (v := 1) hx hb dX11_check_18 (by decide) ?_
      have hPc := hP.sub (ws' := [(xa, (b11_1 x0 (nI x1) x2 (nI x3) x4 x5 x6 x7 x8 x9 x10))]) [0] rfl
      have hDc := hD.sub (ws' := [(xa, (b11_1 x0 (nI x1) x2 (nI x3) x4 x5 x6 x7 x8 x9 x10))]) [0] (by decide) rfl
      have hKc := hK.sub (tys' := []) [] rfl
      have hFc := va_free (wc := [(xa, (b11_1 x0 (nI x1) x2 (nI x3) x4 x5 x6 x7 x8 x9 x10))]) hD hS hA [0] rfl
      refine va_calli (va_runV (As := [.int 1]) (rest := []) ⟨hx, hb, hml, hown, hg⟩ (k_refuse l D H_1.size xa x0 (nI x1) x2 (nI x3) x4 x5 x6 x7 x8 x9 x10 1) (cwV 1 hg (gV wd_344 wd_345 wd_346 wd_3 wd_347) rfl rfl rfl (by decide +kernel) ⟨(Nat.le_trans (Nat.le_of_ble_eq_true rfl) hRf), (Nat.le_trans (Nat.le_of_ble_eq_true rfl) hRl)⟩) ⟨Pr.blind, va_recv hK hP (ci := 11) (q0 := 0) rfl rfl, fun U hU hW => ⟨rfl, Pr.at hPc hKc hDc hN hU hW⟩⟩ rfl rfl hl.1 rfl (lv_room (Nat.le_of_ble_eq_true rfl)) dX11_check_19 ⟨(Nat.le_trans (Nat.le_of_ble_eq_true rfl) hRc), (Nat.le_trans (Nat.le_of_ble_eq_true rfl) hRs)⟩) hS (fun q _ h => hFc q h) hFc (fun r_65 M_66 t H_64 locs ht hvm hw hB hz1 hk1 hS => ?_)
      have hp_67 := hw
      obtain ⟨hP1, hK1, hD1⟩ := hB
      rw [ht] at hP1
      obtain ⟨hP, hD⟩ := va_joinQ (X := [(xa, (b11_1 x0 (nI x1) x2 (nI x3) x4 x5 x6 x7 x8 x9 x10))]) (cx := [(xa, (b11_1 x0 (nI x1) x2 (nI x3) x4 x5 x6 x7 x8 x9 x10))]) (wr := []) (w1 := [(xa, (b11_1 x0 (nI x1) x2 (nI x3) x4 x5 x6 x7 x8 1 (-1)))]) (pl := va_pl L M) hP hD [0] [] rfl rfl (by decide) (by decide) hk1 hFc hP1 hD1
      have hP : va_P D vwCl ([(xa, (b11_1 x0 (nI x1) x2 (nI x3) x4 x5 x6 x7 x8 1 (-1)))] ++ va_pl L M) H_64 := hP
      have hD : va_D A ([(xa, (b11_1 x0 (nI x1) x2 (nI x3) x4 x5 x6 x7 x8 1 (-1)))] ++ va_pl L M) := hD
      have hq := Eq.symm hp_67
      subst hq
      rw [hQ]
      exact W.iret (v := (-1)) hx hb hr (fun t ht hW9 => ⟨⟨(-1), (), rfl, trivial, ⟨1, by rw [ht]; exact hP, hD⟩⟩, hS.F ht⟩) hS.2.2 dX11_check_22
set_option maxHeartbeats 4000000 in
set_option maxRecDepth 100000 in
theorem s_X11_status (l : Launch) (D : va_G) (cy : Nat → ClassId) (K : Kp) (L : List Nat) (M : Hp) (sz : Nat) (xa : Nat) (x0 : Nat) (x1 : Nat) (x2 : Nat) (x3 : Nat) (x4 : Nat) (x5 : Nat) (x6 : Nat) (x7 : Int32) (x8 : Nat) (x9 : Int32) (x10 : Int32) (hW : WOK cy K L M) (i0 : isk K L x0 17 8) (b1 : x1 ≤ 8) (i2 : isk K L x2 19 40) (b3 : x3 ≤ 40) (i4 : isk K L x4 7 0) (i5 : isk K L x5 5 0) (i6 : isk K L x6 60 24) (i8 : isk K L x8 73 25) : Met l yX11_status (wsM yX11_status cX11_status 1 (some .int)) ({ frames := 0, cells := 0, slots := 0, locals := 0 }) (va_Pc [.ref xa] (PG D cy [(xa, (b11_1 x0 (nI x1) x2 (nI x3) x4 x5 x6 x7 x8 x9 x10))] L M sz)) (va_Qi (fun (r : Int32) (_ : Unit) => True) (fun _ t => PQ D [(xa, (b11_1 x0 (nI x1) x2 (nI x3) x4 x5 x6 x7 x8 x9 x10))] L M (va_A ([(xa, (b11_1 x0 (nI x1) x2 (nI x3) x4 x5 x6 x7 x8 x9 x10))] ++ va_pl L M) sz) t) (va_A ([(xa, (b11_1 x0 (nI x1) x2 (nI x3) x4 x5 x6 x7 x8 x9 x10))] ++ va_pl L M) sz)) 0 0 (va_A ([(xa, (b11_1 x0 (nI x1) x2 (nI x3) x4 x5 x6 x7 x8 x9 x10))] ++ va_pl L M) sz) := by
  refine Met.ofW (cc := cX11_status) (maxL := 1) (ret := (some .int)) (by decide) rfl ?_
  intro p e s m args below meth c s₁ B hml hv
  obtain ⟨rfl, hsz, hP, hK, hD0, hN⟩ := hv
  have hx := B.exec
  have hb := B.bytes
  have hr := B.returns
  have hts := atoms_spec (ws := (wsM yX11_status cX11_status 1 (some .int))) B.pre
  have hg : ∀ w ∈ lw_good, w.before _ s = true := fun w h => hts w (List.mem_cons_of_mem _ h)
  have hown : s.vm.findClass RX11 = some m.cls := findClass_of_methodNamed B.named
  have hlocks := B.notSynchronized
  subst hsz
  have hD := hD0.self (sz := s.heap.size)
  generalize hAe : va_A ([(xa, (b11_1 x0 (nI x1) x2 (nI x3) x4 x5 x6 x7 x8 x9 x10))] ++ va_pl L M) s.heap.size = A at hD ⊢
  have hA : ∀ q : Nat, s.heap.size ≤ q → A q := fun q h => by rw [← hAe]; exact Or.inr h
  have hS : va_S A s.heap s.heap [] := va_S.rf
  have hl := lv_entry ([.ref xa]) (n := 1) (Nat.le_of_ble_eq_true rfl)
  rw [lg_entry_eq]
  generalize (lg_sl ([.ref xa]) ++ List.replicate (1 - (lg_sl ([.ref xa])).length) Slot.unset).toArray = ls at hl ⊢
  refine W.nameQ (fun Q hQ => ?_)
  refine W.nameR (fun R hR => ?_)
  have hRf : 0 ≤ R.frames := by rw [hR]; exact Nat.le_of_ble_eq_true rfl
  have hRl : 0 ≤ R.locals := by rw [hR]; exact Nat.le_of_ble_eq_true rfl
  have hRc : 0 ≤ R.cells := by rw [hR]; exact Nat.le_of_ble_eq_true rfl
  have hRs : 0 ≤ R.slots := by rw [hR]; exact Nat.le_of_ble_eq_true rfl
  have hl : lv_has ls 1 [(0, .ref xa)] := hl
  refine lv_aload_n hx hb dX11_status_0 rfl (lv_at hl 0 rfl) ?_
  refine va_get (D := D) (ci := 11) (v := .int x9) (C := RX11) (T := TX11) (N := 11) hx hb hg inG11 hown hK hP 0 rfl rfl 9 (by decide) (hg _ wd_330) (fun _ h9 => h9) rfl dX11_status_1 ?_
  rw [hQ]
  exact W.iret (v := x9) hx hb hr (fun t ht hW9 => ⟨⟨x9, (), rfl, trivial, ⟨by rw [ht]; exact hP, hD⟩⟩, hS.F ht⟩) hS.2.2 dX11_status_4
