theorem dX12_remember_0 : decode cX12_remember 0 = .ok (.aload_n 0, 1) := by decide +kernel
theorem dX12_remember_1 : decode cX12_remember 1 = .ok (.getfield 135, 3) := by decide +kernel
theorem dX12_remember_4 : decode cX12_remember 4 = .ok (.bipush 60, 2) := by decide +kernel
theorem dX12_remember_6 : decode cX12_remember 6 = .ok (.if_icmp .ne 41, 3) := by decide +kernel
theorem dX12_remember_9 : decode cX12_remember 9 = .ok (.iconst 1, 1) := by decide +kernel
theorem dX12_remember_10 : decode cX12_remember 10 = .ok (.istore_n 2, 1) := by decide +kernel
theorem dX12_remember_11 : decode cX12_remember 11 = .ok (.iload_n 2, 1) := by decide +kernel
theorem dX12_remember_12 : decode cX12_remember 12 = .ok (.bipush 60, 2) := by decide +kernel
theorem dX12_remember_14 : decode cX12_remember 14 = .ok (.if_icmp .ge 23, 3) := by decide +kernel
theorem dX12_remember_17 : decode cX12_remember 17 = .ok (.aload_n 0, 1) := by decide +kernel
theorem dX12_remember_18 : decode cX12_remember 18 = .ok (.getfield 104, 3) := by decide +kernel
theorem dX12_remember_21 : decode cX12_remember 21 = .ok (.iload_n 2, 1) := by decide +kernel
theorem dX12_remember_22 : decode cX12_remember 22 = .ok (.iconst 1, 1) := by decide +kernel
theorem dX12_remember_23 : decode cX12_remember 23 = .ok (.isub, 1) := by decide +kernel
theorem dX12_remember_24 : decode cX12_remember 24 = .ok (.aload_n 0, 1) := by decide +kernel
theorem dX12_remember_25 : decode cX12_remember 25 = .ok (.getfield 104, 3) := by decide +kernel
theorem dX12_remember_28 : decode cX12_remember 28 = .ok (.iload_n 2, 1) := by decide +kernel
theorem dX12_remember_29 : decode cX12_remember 29 = .ok (.iaload, 1) := by decide +kernel
theorem dX12_remember_30 : decode cX12_remember 30 = .ok (.iastore, 1) := by decide +kernel
theorem dX12_remember_31 : decode cX12_remember 31 = .ok (.iinc 2 1, 3) := by decide +kernel
theorem dX12_remember_34 : decode cX12_remember 34 = .ok (.goto (-23), 3) := by decide +kernel
theorem dX12_remember_37 : decode cX12_remember 37 = .ok (.aload_n 0, 1) := by decide +kernel
theorem dX12_remember_38 : decode cX12_remember 38 = .ok (.dup, 1) := by decide +kernel
theorem dX12_remember_39 : decode cX12_remember 39 = .ok (.getfield 135, 3) := by decide +kernel
theorem dX12_remember_42 : decode cX12_remember 42 = .ok (.iconst 1, 1) := by decide +kernel
theorem dX12_remember_43 : decode cX12_remember 43 = .ok (.isub, 1) := by decide +kernel
theorem dX12_remember_44 : decode cX12_remember 44 = .ok (.putfield 135, 3) := by decide +kernel
theorem dX12_remember_47 : decode cX12_remember 47 = .ok (.aload_n 0, 1) := by decide +kernel
theorem dX12_remember_48 : decode cX12_remember 48 = .ok (.getfield 104, 3) := by decide +kernel
theorem dX12_remember_51 : decode cX12_remember 51 = .ok (.aload_n 0, 1) := by decide +kernel
theorem dX12_remember_52 : decode cX12_remember 52 = .ok (.getfield 135, 3) := by decide +kernel
theorem dX12_remember_55 : decode cX12_remember 55 = .ok (.iload_n 1, 1) := by decide +kernel
theorem dX12_remember_56 : decode cX12_remember 56 = .ok (.iastore, 1) := by decide +kernel
theorem dX12_remember_57 : decode cX12_remember 57 = .ok (.aload_n 0, 1) := by decide +kernel
theorem dX12_remember_58 : decode cX12_remember 58 = .ok (.dup, 1) := by decide +kernel
theorem dX12_remember_59 : decode cX12_remember 59 = .ok (.getfield 135, 3) := by decide +kernel
theorem dX12_remember_62 : decode cX12_remember 62 = .ok (.iconst 1, 1) := by decide +kernel
theorem dX12_remember_63 : decode cX12_remember 63 = .ok (.iadd, 1) := by decide +kernel
theorem dX12_remember_64 : decode cX12_remember 64 = .ok (.putfield 135, 3) := by decide +kernel
theorem dX12_remember_67 : decode cX12_remember 67 = .ok (.return_, 1) := by decide +kernel
theorem dX13_begins_0 : decode cX13_begins 0 = .ok (.aload_n 1, 1) := by decide +kernel
theorem dX13_begins_1 : decode cX13_begins 1 = .ok (.getfield 68, 3) := by decide +kernel
theorem dX13_begins_4 : decode cX13_begins 4 = .ok (.istore 6, 2) := by decide +kernel
theorem dX13_begins_6 : decode cX13_begins 6 = .ok (.aload_n 1, 1) := by decide +kernel
theorem dX13_begins_7 : decode cX13_begins 7 = .ok (.dup, 1) := by decide +kernel
theorem dX13_begins_8 : decode cX13_begins 8 = .ok (.getfield 68, 3) := by decide +kernel
theorem dX13_begins_11 : decode cX13_begins 11 = .ok (.iconst 1, 1) := by decide +kernel
theorem dX13_begins_12 : decode cX13_begins 12 = .ok (.iadd, 1) := by decide +kernel
theorem dX13_begins_13 : decode cX13_begins 13 = .ok (.putfield 68, 3) := by decide +kernel
theorem dX13_begins_16 : decode cX13_begins 16 = .ok (.aload_n 1, 1) := by decide +kernel
theorem dX13_begins_17 : decode cX13_begins 17 = .ok (.getfield 72, 3) := by decide +kernel
theorem dX13_begins_20 : decode cX13_begins 20 = .ok (.iload 6, 2) := by decide +kernel
theorem dX13_begins_22 : decode cX13_begins 22 = .ok (.iload_n 3, 1) := by decide +kernel
theorem dX13_begins_23 : decode cX13_begins 23 = .ok (.iastore, 1) := by decide +kernel
theorem dX13_begins_24 : decode cX13_begins 24 = .ok (.aload_n 1, 1) := by decide +kernel
theorem dX13_begins_25 : decode cX13_begins 25 = .ok (.getfield 110, 3) := by decide +kernel
theorem dX13_begins_28 : decode cX13_begins 28 = .ok (.iload 6, 2) := by decide +kernel
theorem dX13_begins_30 : decode cX13_begins 30 = .ok (.iload_n 2, 1) := by decide +kernel
theorem dX13_begins_31 : decode cX13_begins 31 = .ok (.iastore, 1) := by decide +kernel
theorem dX13_begins_32 : decode cX13_begins 32 = .ok (.aload_n 1, 1) := by decide +kernel
theorem dX13_begins_33 : decode cX13_begins 33 = .ok (.getfield 112, 3) := by decide +kernel
theorem dX13_begins_36 : decode cX13_begins 36 = .ok (.iload 6, 2) := by decide +kernel
theorem dX13_begins_38 : decode cX13_begins 38 = .ok (.iload 4, 2) := by decide +kernel
theorem dX13_begins_40 : decode cX13_begins 40 = .ok (.iastore, 1) := by decide +kernel
theorem dX13_begins_41 : decode cX13_begins 41 = .ok (.aload_n 1, 1) := by decide +kernel
theorem dX13_begins_42 : decode cX13_begins 42 = .ok (.getfield 95, 3) := by decide +kernel
theorem dX13_begins_45 : decode cX13_begins 45 = .ok (.iload 6, 2) := by decide +kernel
theorem dX13_begins_47 : decode cX13_begins 47 = .ok (.iconst (-1), 1) := by decide +kernel
theorem dX13_begins_48 : decode cX13_begins 48 = .ok (.iastore, 1) := by decide +kernel
theorem dX13_begins_49 : decode cX13_begins 49 = .ok (.aload_n 1, 1) := by decide +kernel
theorem dX13_begins_50 : decode cX13_begins 50 = .ok (.getfield 115, 3) := by decide +kernel
theorem dX13_begins_53 : decode cX13_begins 53 = .ok (.iload 6, 2) := by decide +kernel
theorem dX13_begins_55 : decode cX13_begins 55 = .ok (.iconst 0, 1) := by decide +kernel
theorem dX13_begins_56 : decode cX13_begins 56 = .ok (.iastore, 1) := by decide +kernel
theorem dX13_begins_57 : decode cX13_begins 57 = .ok (.aload_n 1, 1) := by decide +kernel
theorem dX13_begins_58 : decode cX13_begins 58 = .ok (.getfield 118, 3) := by decide +kernel
theorem dX13_begins_61 : decode cX13_begins 61 = .ok (.iload 6, 2) := by decide +kernel
theorem dX13_begins_63 : decode cX13_begins 63 = .ok (.iconst 0, 1) := by decide +kernel
theorem dX13_begins_64 : decode cX13_begins 64 = .ok (.iastore, 1) := by decide +kernel
theorem dX13_begins_65 : decode cX13_begins 65 = .ok (.aload_n 1, 1) := by decide +kernel
theorem dX13_begins_66 : decode cX13_begins 66 = .ok (.getfield 121, 3) := by decide +kernel
theorem dX13_begins_69 : decode cX13_begins 69 = .ok (.iload 6, 2) := by decide +kernel
theorem dX13_begins_71 : decode cX13_begins 71 = .ok (.iconst (-1), 1) := by decide +kernel
theorem dX13_begins_72 : decode cX13_begins 72 = .ok (.iastore, 1) := by decide +kernel
theorem dX13_begins_73 : decode cX13_begins 73 = .ok (.aload_n 1, 1) := by decide +kernel
theorem dX13_begins_74 : decode cX13_begins 74 = .ok (.getfield 124, 3) := by decide +kernel
theorem dX13_begins_77 : decode cX13_begins 77 = .ok (.iload 6, 2) := by decide +kernel
theorem dX13_begins_79 : decode cX13_begins 79 = .ok (.iload 5, 2) := by decide +kernel
theorem dX13_begins_81 : decode cX13_begins 81 = .ok (.bastore, 1) := by decide +kernel
theorem dX13_begins_82 : decode cX13_begins 82 = .ok (.aload_n 1, 1) := by decide +kernel
theorem dX13_begins_83 : decode cX13_begins 83 = .ok (.getfield 92, 3) := by decide +kernel
theorem dX13_begins_86 : decode cX13_begins 86 = .ok (.iload_n 2, 1) := by decide +kernel
theorem dX13_begins_87 : decode cX13_begins 87 = .ok (.iload 6, 2) := by decide +kernel
theorem dX13_begins_89 : decode cX13_begins 89 = .ok (.iconst 1, 1) := by decide +kernel
theorem dX13_begins_90 : decode cX13_begins 90 = .ok (.iadd, 1) := by decide +kernel
theorem dX13_begins_91 : decode cX13_begins 91 = .ok (.iastore, 1) := by decide +kernel
theorem dX13_begins_92 : decode cX13_begins 92 = .ok (.iload 6, 2) := by decide +kernel
theorem dX13_begins_94 : decode cX13_begins 94 = .ok (.ireturn, 1) := by decide +kernel
theorem dX13_leave_0 : decode cX13_leave 0 = .ok (.aload_n 0, 1) := by decide +kernel
theorem dX13_leave_1 : decode cX13_leave 1 = .ok (.iconst 0, 1) := by decide +kernel
theorem dX13_leave_2 : decode cX13_leave 2 = .ok (.putfield 55, 3) := by decide +kernel
theorem dX13_leave_5 : decode cX13_leave 5 = .ok (.aload_n 0, 1) := by decide +kernel
theorem dX13_leave_6 : decode cX13_leave 6 = .ok (.iload_n 1, 1) := by decide +kernel
theorem dX13_leave_7 : decode cX13_leave 7 = .ok (.iload_n 2, 1) := by decide +kernel
theorem dX13_leave_8 : decode cX13_leave 8 = .ok (.invokevirtual 98, 3) := by decide +kernel
theorem dX13_leave_11 : decode cX13_leave 11 = .ok (.ifCond .ne 9, 3) := by decide +kernel
theorem dX13_leave_14 : decode cX13_leave 14 = .ok (.aload_n 0, 1) := by decide +kernel
theorem dX13_leave_15 : decode cX13_leave 15 = .ok (.iconst 1, 1) := by decide +kernel
theorem dX13_leave_16 : decode cX13_leave 16 = .ok (.invokevirtual 73, 3) := by decide +kernel
theorem dX13_leave_19 : decode cX13_leave 19 = .ok (.ireturn, 1) := by decide +kernel
theorem dX13_leave_20 : decode cX13_leave 20 = .ok (.aload_n 0, 1) := by decide +kernel
theorem dX13_leave_21 : decode cX13_leave 21 = .ok (.getfield 12, 3) := by decide +kernel
theorem dX13_leave_24 : decode cX13_leave 24 = .ok (.iload_n 1, 1) := by decide +kernel
theorem dX13_leave_25 : decode cX13_leave 25 = .ok (.aaload, 1) := by decide +kernel
theorem dX13_leave_26 : decode cX13_leave 26 = .ok (.astore 6, 2) := by decide +kernel
theorem dX13_leave_28 : decode cX13_leave 28 = .ok (.aload_n 0, 1) := by decide +kernel
theorem dX13_leave_29 : decode cX13_leave 29 = .ok (.aload 6, 2) := by decide +kernel
theorem dX13_leave_31 : decode cX13_leave 31 = .ok (.iload_n 2, 1) := by decide +kernel
theorem dX13_leave_32 : decode cX13_leave 32 = .ok (.invokevirtual 103, 3) := by decide +kernel
theorem dX13_leave_35 : decode cX13_leave 35 = .ok (.istore 7, 2) := by decide +kernel
theorem dX13_leave_37 : decode cX13_leave 37 = .ok (.iload 7, 2) := by decide +kernel
theorem dX13_leave_39 : decode cX13_leave 39 = .ok (.iconst (-1), 1) := by decide +kernel
theorem dX13_leave_40 : decode cX13_leave 40 = .ok (.if_icmp .ne 9, 3) := by decide +kernel
theorem dX13_leave_43 : decode cX13_leave 43 = .ok (.aload_n 0, 1) := by decide +kernel
theorem dX13_leave_44 : decode cX13_leave 44 = .ok (.iconst 4, 1) := by decide +kernel
theorem dX13_leave_45 : decode cX13_leave 45 = .ok (.invokevirtual 73, 3) := by decide +kernel
theorem dX13_leave_48 : decode cX13_leave 48 = .ok (.ireturn, 1) := by decide +kernel
theorem dX13_leave_49 : decode cX13_leave 49 = .ok (.iload 4, 2) := by decide +kernel
theorem dX13_leave_51 : decode cX13_leave 51 = .ok (.iconst 1, 1) := by decide +kernel
theorem dX13_leave_52 : decode cX13_leave 52 = .ok (.if_icmp .lt 21, 3) := by decide +kernel
theorem dX13_leave_55 : decode cX13_leave 55 = .ok (.iload 4, 2) := by decide +kernel
theorem dX13_leave_57 : decode cX13_leave 57 = .ok (.bipush 10, 2) := by decide +kernel
theorem dX13_leave_59 : decode cX13_leave 59 = .ok (.if_icmp .gt 14, 3) := by decide +kernel
theorem dX13_leave_62 : decode cX13_leave 62 = .ok (.iload 5, 2) := by decide +kernel
theorem dX13_leave_64 : decode cX13_leave 64 = .ok (.ifCond .lt 9, 3) := by decide +kernel
theorem dX13_leave_67 : decode cX13_leave 67 = .ok (.iload 5, 2) := by decide +kernel
theorem dX13_leave_69 : decode cX13_leave 69 = .ok (.iconst 5, 1) := by decide +kernel
theorem dX13_leave_70 : decode cX13_leave 70 = .ok (.if_icmp .le 9, 3) := by decide +kernel
theorem dX13_leave_73 : decode cX13_leave 73 = .ok (.aload_n 0, 1) := by decide +kernel
theorem dX13_leave_74 : decode cX13_leave 74 = .ok (.iconst 2, 1) := by decide +kernel
theorem dX13_leave_75 : decode cX13_leave 75 = .ok (.invokevirtual 73, 3) := by decide +kernel
theorem dX13_leave_78 : decode cX13_leave 78 = .ok (.ireturn, 1) := by decide +kernel
theorem dX13_leave_79 : decode cX13_leave 79 = .ok (.aload 6, 2) := by decide +kernel
theorem dX13_leave_81 : decode cX13_leave 81 = .ok (.iload_n 3, 1) := by decide +kernel
theorem dX13_leave_82 : decode cX13_leave 82 = .ok (.invokevirtual 131, 3) := by decide +kernel
theorem dX13_leave_85 : decode cX13_leave 85 = .ok (.ifCond .eq 15, 3) := by decide +kernel
theorem dX13_leave_88 : decode cX13_leave 88 = .ok (.iload_n 3, 1) := by decide +kernel
theorem dX13_leave_89 : decode cX13_leave 89 = .ok (.aload 6, 2) := by decide +kernel
theorem dX13_leave_91 : decode cX13_leave 91 = .ok (.getfield 112, 3) := by decide +kernel
theorem dX13_leave_94 : decode cX13_leave 94 = .ok (.iload 7, 2) := by decide +kernel
theorem dX13_leave_96 : decode cX13_leave 96 = .ok (.iaload, 1) := by decide +kernel
theorem dX13_leave_97 : decode cX13_leave 97 = .ok (.if_icmp .gt 9, 3) := by decide +kernel
theorem dX13_leave_100 : decode cX13_leave 100 = .ok (.aload_n 0, 1) := by decide +kernel
theorem dX13_leave_101 : decode cX13_leave 101 = .ok (.iconst 3, 1) := by decide +kernel
theorem dX13_leave_102 : decode cX13_leave 102 = .ok (.invokevirtual 73, 3) := by decide +kernel
theorem dX13_leave_105 : decode cX13_leave 105 = .ok (.ireturn, 1) := by decide +kernel
theorem dX13_leave_106 : decode cX13_leave 106 = .ok (.aload 6, 2) := by decide +kernel
theorem dX13_leave_108 : decode cX13_leave 108 = .ok (.getfield 95, 3) := by decide +kernel
theorem dX13_leave_111 : decode cX13_leave 111 = .ok (.iload 7, 2) := by decide +kernel
theorem dX13_leave_113 : decode cX13_leave 113 = .ok (.iload_n 3, 1) := by decide +kernel
theorem dX13_leave_114 : decode cX13_leave 114 = .ok (.iastore, 1) := by decide +kernel
theorem dX13_leave_115 : decode cX13_leave 115 = .ok (.aload 6, 2) := by decide +kernel
theorem dX13_leave_117 : decode cX13_leave 117 = .ok (.getfield 115, 3) := by decide +kernel
theorem dX13_leave_120 : decode cX13_leave 120 = .ok (.iload 7, 2) := by decide +kernel
theorem dX13_leave_122 : decode cX13_leave 122 = .ok (.iload 4, 2) := by decide +kernel
theorem dX13_leave_124 : decode cX13_leave 124 = .ok (.iastore, 1) := by decide +kernel
theorem dX13_leave_125 : decode cX13_leave 125 = .ok (.aload 6, 2) := by decide +kernel
theorem dX13_leave_127 : decode cX13_leave 127 = .ok (.getfield 118, 3) := by decide +kernel
theorem dX13_leave_130 : decode cX13_leave 130 = .ok (.iload 7, 2) := by decide +kernel
theorem dX13_leave_132 : decode cX13_leave 132 = .ok (.iload 5, 2) := by decide +kernel
theorem dX13_leave_134 : decode cX13_leave 134 = .ok (.iastore, 1) := by decide +kernel
theorem dX13_leave_135 : decode cX13_leave 135 = .ok (.aload_n 0, 1) := by decide +kernel
theorem dX13_leave_136 : decode cX13_leave 136 = .ok (.iload 7, 2) := by decide +kernel
theorem dX13_leave_138 : decode cX13_leave 138 = .ok (.invokevirtual 86, 3) := by decide +kernel
theorem dX13_leave_141 : decode cX13_leave 141 = .ok (.ireturn, 1) := by decide +kernel
theorem dX13_die_0 : decode cX13_die 0 = .ok (.aload_n 0, 1) := by decide +kernel
theorem dX13_die_1 : decode cX13_die 1 = .ok (.iconst 0, 1) := by decide +kernel
theorem dX13_die_2 : decode cX13_die 2 = .ok (.putfield 55, 3) := by decide +kernel
theorem dX13_die_5 : decode cX13_die 5 = .ok (.aload_n 0, 1) := by decide +kernel
theorem dX13_die_6 : decode cX13_die 6 = .ok (.iload_n 1, 1) := by decide +kernel
theorem dX13_die_7 : decode cX13_die 7 = .ok (.iload_n 2, 1) := by decide +kernel
theorem dX13_die_8 : decode cX13_die 8 = .ok (.invokevirtual 98, 3) := by decide +kernel
theorem dX13_die_11 : decode cX13_die 11 = .ok (.ifCond .eq 17, 3) := by decide +kernel
theorem dX13_die_14 : decode cX13_die 14 = .ok (.iload 4, 2) := by decide +kernel
theorem dX13_die_16 : decode cX13_die 16 = .ok (.ifCond .lt 12, 3) := by decide +kernel
theorem dX13_die_19 : decode cX13_die 19 = .ok (.iload 4, 2) := by decide +kernel
theorem dX13_die_21 : decode cX13_die 21 = .ok (.aload_n 0, 1) := by decide +kernel
theorem dX13_die_22 : decode cX13_die 22 = .ok (.getfield 89, 3) := by decide +kernel
theorem dX13_die_25 : decode cX13_die 25 = .ok (.if_icmp .lt 9, 3) := by decide +kernel
theorem dX13_die_28 : decode cX13_die 28 = .ok (.aload_n 0, 1) := by decide +kernel
theorem dX13_die_29 : decode cX13_die 29 = .ok (.iconst 1, 1) := by decide +kernel
theorem dX13_die_30 : decode cX13_die 30 = .ok (.invokevirtual 73, 3) := by decide +kernel
theorem dX13_die_33 : decode cX13_die 33 = .ok (.ireturn, 1) := by decide +kernel
theorem dX13_die_34 : decode cX13_die 34 = .ok (.aload_n 0, 1) := by decide +kernel
theorem dX13_die_35 : decode cX13_die 35 = .ok (.getfield 12, 3) := by decide +kernel
theorem dX13_die_38 : decode cX13_die 38 = .ok (.iload_n 1, 1) := by decide +kernel
theorem dX13_die_39 : decode cX13_die 39 = .ok (.aaload, 1) := by decide +kernel
theorem dX13_die_40 : decode cX13_die 40 = .ok (.astore 5, 2) := by decide +kernel
theorem dX13_die_42 : decode cX13_die 42 = .ok (.aload_n 0, 1) := by decide +kernel
theorem dX13_die_43 : decode cX13_die 43 = .ok (.aload 5, 2) := by decide +kernel
theorem dX13_die_45 : decode cX13_die 45 = .ok (.iload_n 2, 1) := by decide +kernel
theorem dX13_die_46 : decode cX13_die 46 = .ok (.invokevirtual 103, 3) := by decide +kernel
theorem dX13_die_49 : decode cX13_die 49 = .ok (.istore 6, 2) := by decide +kernel
theorem dX13_die_51 : decode cX13_die 51 = .ok (.iload 6, 2) := by decide +kernel
theorem dX13_die_53 : decode cX13_die 53 = .ok (.iconst (-1), 1) := by decide +kernel
theorem dX13_die_54 : decode cX13_die 54 = .ok (.if_icmp .ne 9, 3) := by decide +kernel
theorem dX13_die_57 : decode cX13_die 57 = .ok (.aload_n 0, 1) := by decide +kernel
theorem dX13_die_58 : decode cX13_die 58 = .ok (.iconst 4, 1) := by decide +kernel
theorem dX13_die_59 : decode cX13_die 59 = .ok (.invokevirtual 73, 3) := by decide +kernel
theorem dX13_die_62 : decode cX13_die 62 = .ok (.ireturn, 1) := by decide +kernel
theorem dX13_die_63 : decode cX13_die 63 = .ok (.aload_n 0, 1) := by decide +kernel
theorem dX13_die_64 : decode cX13_die 64 = .ok (.getfield 20, 3) := by decide +kernel
theorem dX13_die_67 : decode cX13_die 67 = .ok (.iload 4, 2) := by decide +kernel
theorem dX13_die_69 : decode cX13_die 69 = .ok (.iaload, 1) := by decide +kernel
theorem dX13_die_70 : decode cX13_die 70 = .ok (.iconst 4, 1) := by decide +kernel
theorem dX13_die_71 : decode cX13_die 71 = .ok (.if_icmp .eq 9, 3) := by decide +kernel
theorem dX13_die_74 : decode cX13_die 74 = .ok (.aload_n 0, 1) := by decide +kernel
theorem dX13_die_75 : decode cX13_die 75 = .ok (.iconst 2, 1) := by decide +kernel
theorem dX13_die_76 : decode cX13_die 76 = .ok (.invokevirtual 73, 3) := by decide +kernel
theorem dX13_die_79 : decode cX13_die 79 = .ok (.ireturn, 1) := by decide +kernel
theorem dX13_die_80 : decode cX13_die 80 = .ok (.aload 5, 2) := by decide +kernel
theorem dX13_die_82 : decode cX13_die 82 = .ok (.iload_n 3, 1) := by decide +kernel
theorem dX13_die_83 : decode cX13_die 83 = .ok (.invokevirtual 131, 3) := by decide +kernel
theorem dX13_die_86 : decode cX13_die 86 = .ok (.ifCond .eq 15, 3) := by decide +kernel
theorem dX13_die_89 : decode cX13_die 89 = .ok (.iload_n 3, 1) := by decide +kernel
theorem dX13_die_90 : decode cX13_die 90 = .ok (.aload 5, 2) := by decide +kernel
theorem dX13_die_92 : decode cX13_die 92 = .ok (.getfield 112, 3) := by decide +kernel
theorem dX13_die_95 : decode cX13_die 95 = .ok (.iload 6, 2) := by decide +kernel
theorem dX13_die_97 : decode cX13_die 97 = .ok (.iaload, 1) := by decide +kernel
theorem dX13_die_98 : decode cX13_die 98 = .ok (.if_icmp .gt 9, 3) := by decide +kernel
theorem dX13_die_101 : decode cX13_die 101 = .ok (.aload_n 0, 1) := by decide +kernel
theorem dX13_die_102 : decode cX13_die 102 = .ok (.iconst 3, 1) := by decide +kernel
theorem dX13_die_103 : decode cX13_die 103 = .ok (.invokevirtual 73, 3) := by decide +kernel
theorem dX13_die_106 : decode cX13_die 106 = .ok (.ireturn, 1) := by decide +kernel
theorem dX13_die_107 : decode cX13_die 107 = .ok (.aload 5, 2) := by decide +kernel
theorem dX13_die_109 : decode cX13_die 109 = .ok (.getfield 68, 3) := by decide +kernel
theorem dX13_die_112 : decode cX13_die 112 = .ok (.bipush 24, 2) := by decide +kernel
theorem dX13_die_114 : decode cX13_die 114 = .ok (.if_icmp .ne 10, 3) := by decide +kernel
theorem dX13_die_117 : decode cX13_die 117 = .ok (.aload_n 0, 1) := by decide +kernel
theorem dX13_die_118 : decode cX13_die 118 = .ok (.bipush 9, 2) := by decide +kernel
theorem dX13_die_120 : decode cX13_die 120 = .ok (.invokevirtual 73, 3) := by decide +kernel
theorem dX13_die_123 : decode cX13_die 123 = .ok (.ireturn, 1) := by decide +kernel
theorem dX13_die_124 : decode cX13_die 124 = .ok (.aload 5, 2) := by decide +kernel
theorem dX13_die_126 : decode cX13_die 126 = .ok (.getfield 95, 3) := by decide +kernel
theorem dX13_die_129 : decode cX13_die 129 = .ok (.iload 6, 2) := by decide +kernel
theorem dX13_die_131 : decode cX13_die 131 = .ok (.iload_n 3, 1) := by decide +kernel
theorem dX13_die_132 : decode cX13_die 132 = .ok (.iastore, 1) := by decide +kernel
theorem dX13_die_133 : decode cX13_die 133 = .ok (.aload 5, 2) := by decide +kernel
theorem dX13_die_135 : decode cX13_die 135 = .ok (.getfield 115, 3) := by decide +kernel
theorem dX13_die_138 : decode cX13_die 138 = .ok (.iload 6, 2) := by decide +kernel
theorem dX13_die_140 : decode cX13_die 140 = .ok (.iconst 1, 1) := by decide +kernel
theorem dX13_die_141 : decode cX13_die 141 = .ok (.iastore, 1) := by decide +kernel
theorem dX13_die_142 : decode cX13_die 142 = .ok (.aload 5, 2) := by decide +kernel
theorem dX13_die_144 : decode cX13_die 144 = .ok (.getfield 118, 3) := by decide +kernel
theorem dX13_die_147 : decode cX13_die 147 = .ok (.iload 6, 2) := by decide +kernel
theorem dX13_die_149 : decode cX13_die 149 = .ok (.iconst 0, 1) := by decide +kernel
theorem dX13_die_150 : decode cX13_die 150 = .ok (.iastore, 1) := by decide +kernel
theorem dX13_die_151 : decode cX13_die 151 = .ok (.aload 5, 2) := by decide +kernel
theorem dX13_die_153 : decode cX13_die 153 = .ok (.getfield 121, 3) := by decide +kernel
theorem dX13_die_156 : decode cX13_die 156 = .ok (.iload 6, 2) := by decide +kernel
theorem dX13_die_158 : decode cX13_die 158 = .ok (.aload_n 0, 1) := by decide +kernel
theorem dX13_die_159 : decode cX13_die 159 = .ok (.aload 5, 2) := by decide +kernel
theorem dX13_die_161 : decode cX13_die 161 = .ok (.iload_n 2, 1) := by decide +kernel
theorem dX13_die_162 : decode cX13_die 162 = .ok (.iload 4, 2) := by decide +kernel
theorem dX13_die_164 : decode cX13_die 164 = .ok (.iload_n 3, 1) := by decide +kernel
theorem dX13_die_165 : decode cX13_die 165 = .ok (.iconst 0, 1) := by decide +kernel
theorem dX13_die_166 : decode cX13_die 166 = .ok (.invokevirtual 138, 3) := by decide +kernel
theorem dX13_die_169 : decode cX13_die 169 = .ok (.iastore, 1) := by decide +kernel
theorem dX13_die_170 : decode cX13_die 170 = .ok (.aload_n 0, 1) := by decide +kernel
theorem dX13_die_171 : decode cX13_die 171 = .ok (.aload 5, 2) := by decide +kernel
theorem dX13_die_173 : decode cX13_die 173 = .ok (.getfield 121, 3) := by decide +kernel
theorem dX13_die_176 : decode cX13_die 176 = .ok (.iload 6, 2) := by decide +kernel
theorem dX13_die_178 : decode cX13_die 178 = .ok (.iaload, 1) := by decide +kernel
theorem dX13_die_179 : decode cX13_die 179 = .ok (.invokevirtual 86, 3) := by decide +kernel
theorem dX13_die_182 : decode cX13_die 182 = .ok (.ireturn, 1) := by decide +kernel
theorem dX13_move_0 : decode cX13_move 0 = .ok (.aload_n 0, 1) := by decide +kernel
theorem dX13_move_1 : decode cX13_move 1 = .ok (.iconst 0, 1) := by decide +kernel
theorem dX13_move_2 : decode cX13_move 2 = .ok (.putfield 55, 3) := by decide +kernel
theorem dX13_move_5 : decode cX13_move 5 = .ok (.aload_n 0, 1) := by decide +kernel
theorem dX13_move_6 : decode cX13_move 6 = .ok (.iload_n 1, 1) := by decide +kernel
theorem dX13_move_7 : decode cX13_move 7 = .ok (.iload_n 2, 1) := by decide +kernel
theorem dX13_move_8 : decode cX13_move 8 = .ok (.invokevirtual 187, 3) := by decide +kernel
theorem dX13_move_11 : decode cX13_move 11 = .ok (.ifCond .ne 9, 3) := by decide +kernel
theorem dX13_move_14 : decode cX13_move 14 = .ok (.aload_n 0, 1) := by decide +kernel
theorem dX13_move_15 : decode cX13_move 15 = .ok (.iconst 1, 1) := by decide +kernel
theorem dX13_move_16 : decode cX13_move 16 = .ok (.invokevirtual 73, 3) := by decide +kernel
theorem dX13_move_19 : decode cX13_move 19 = .ok (.ireturn, 1) := by decide +kernel
theorem dX13_move_20 : decode cX13_move 20 = .ok (.iload 4, 2) := by decide +kernel
theorem dX13_move_22 : decode cX13_move 22 = .ok (.invokestatic 164, 3) := by decide +kernel
theorem dX13_move_25 : decode cX13_move 25 = .ok (.ifCond .ne 9, 3) := by decide +kernel
theorem dX13_move_28 : decode cX13_move 28 = .ok (.aload_n 0, 1) := by decide +kernel
theorem dX13_move_29 : decode cX13_move 29 = .ok (.iconst 2, 1) := by decide +kernel
theorem dX13_move_30 : decode cX13_move 30 = .ok (.invokevirtual 73, 3) := by decide +kernel
theorem dX13_move_33 : decode cX13_move 33 = .ok (.ireturn, 1) := by decide +kernel
theorem dX13_move_34 : decode cX13_move 34 = .ok (.aload_n 0, 1) := by decide +kernel
theorem dX13_move_35 : decode cX13_move 35 = .ok (.getfield 12, 3) := by decide +kernel
theorem dX13_move_38 : decode cX13_move 38 = .ok (.iload_n 1, 1) := by decide +kernel
theorem dX13_move_39 : decode cX13_move 39 = .ok (.aaload, 1) := by decide +kernel
theorem dX13_move_40 : decode cX13_move 40 = .ok (.astore 6, 2) := by decide +kernel
theorem dX13_move_42 : decode cX13_move 42 = .ok (.aload 6, 2) := by decide +kernel
theorem dX13_move_44 : decode cX13_move 44 = .ok (.iload_n 3, 1) := by decide +kernel
theorem dX13_move_45 : decode cX13_move 45 = .ok (.invokevirtual 131, 3) := by decide +kernel
theorem dX13_move_48 : decode cX13_move 48 = .ok (.ifCond .eq 13, 3) := by decide +kernel
theorem dX13_move_51 : decode cX13_move 51 = .ok (.aload 6, 2) := by decide +kernel
theorem dX13_move_53 : decode cX13_move 53 = .ok (.iload_n 2, 1) := by decide +kernel
theorem dX13_move_54 : decode cX13_move 54 = .ok (.iload_n 3, 1) := by decide +kernel
theorem dX13_move_55 : decode cX13_move 55 = .ok (.invokevirtual 190, 3) := by decide +kernel
theorem dX13_move_58 : decode cX13_move 58 = .ok (.ifCond .ne 9, 3) := by decide +kernel
theorem dX13_move_61 : decode cX13_move 61 = .ok (.aload_n 0, 1) := by decide +kernel
theorem dX13_move_62 : decode cX13_move 62 = .ok (.iconst 3, 1) := by decide +kernel
theorem dX13_move_63 : decode cX13_move 63 = .ok (.invokevirtual 73, 3) := by decide +kernel
theorem dX13_move_66 : decode cX13_move 66 = .ok (.ireturn, 1) := by decide +kernel
theorem dX13_move_67 : decode cX13_move 67 = .ok (.aload 6, 2) := by decide +kernel
theorem dX13_move_69 : decode cX13_move 69 = .ok (.getfield 193, 3) := by decide +kernel
theorem dX13_move_72 : decode cX13_move 72 = .ok (.bipush 120, 2) := by decide +kernel
theorem dX13_move_74 : decode cX13_move 74 = .ok (.if_icmp .ne 10, 3) := by decide +kernel
theorem dX13_move_77 : decode cX13_move 77 = .ok (.aload_n 0, 1) := by decide +kernel
theorem dX13_move_78 : decode cX13_move 78 = .ok (.bipush 9, 2) := by decide +kernel
theorem dX13_move_80 : decode cX13_move 80 = .ok (.invokevirtual 73, 3) := by decide +kernel
theorem dX13_move_83 : decode cX13_move 83 = .ok (.ireturn, 1) := by decide +kernel
theorem dX13_move_84 : decode cX13_move 84 = .ok (.aload 6, 2) := by decide +kernel
theorem dX13_move_86 : decode cX13_move 86 = .ok (.getfield 196, 3) := by decide +kernel
theorem dX13_move_89 : decode cX13_move 89 = .ok (.aload 6, 2) := by decide +kernel
theorem dX13_move_91 : decode cX13_move 91 = .ok (.getfield 193, 3) := by decide +kernel
theorem dX13_move_94 : decode cX13_move 94 = .ok (.iload_n 2, 1) := by decide +kernel
theorem dX13_move_95 : decode cX13_move 95 = .ok (.iastore, 1) := by decide +kernel
theorem dX13_move_96 : decode cX13_move 96 = .ok (.aload 6, 2) := by decide +kernel
theorem dX13_move_98 : decode cX13_move 98 = .ok (.getfield 199, 3) := by decide +kernel
theorem dX13_move_101 : decode cX13_move 101 = .ok (.aload 6, 2) := by decide +kernel
theorem dX13_move_103 : decode cX13_move 103 = .ok (.getfield 193, 3) := by decide +kernel
theorem dX13_move_106 : decode cX13_move 106 = .ok (.iload_n 3, 1) := by decide +kernel
theorem dX13_move_107 : decode cX13_move 107 = .ok (.iastore, 1) := by decide +kernel
theorem dX13_move_108 : decode cX13_move 108 = .ok (.aload 6, 2) := by decide +kernel
theorem dX13_move_110 : decode cX13_move 110 = .ok (.getfield 202, 3) := by decide +kernel
theorem dX13_move_113 : decode cX13_move 113 = .ok (.aload 6, 2) := by decide +kernel
theorem dX13_move_115 : decode cX13_move 115 = .ok (.getfield 193, 3) := by decide +kernel
theorem dX13_move_118 : decode cX13_move 118 = .ok (.iload 5, 2) := by decide +kernel
theorem dX13_move_120 : decode cX13_move 120 = .ok (.ifCond .eq 9, 3) := by decide +kernel
theorem dX13_move_123 : decode cX13_move 123 = .ok (.iload 4, 2) := by decide +kernel
theorem dX13_move_125 : decode cX13_move 125 = .ok (.ineg, 1) := by decide +kernel
theorem dX13_move_126 : decode cX13_move 126 = .ok (.goto 5, 3) := by decide +kernel
theorem dX13_move_129 : decode cX13_move 129 = .ok (.iload 4, 2) := by decide +kernel
theorem dX13_move_131 : decode cX13_move 131 = .ok (.iastore, 1) := by decide +kernel
theorem dX13_move_132 : decode cX13_move 132 = .ok (.aload 6, 2) := by decide +kernel
theorem dX13_move_134 : decode cX13_move 134 = .ok (.dup, 1) := by decide +kernel
theorem dX13_move_135 : decode cX13_move 135 = .ok (.getfield 193, 3) := by decide +kernel
theorem dX13_move_138 : decode cX13_move 138 = .ok (.iconst 1, 1) := by decide +kernel
theorem dX13_move_139 : decode cX13_move 139 = .ok (.iadd, 1) := by decide +kernel
theorem dX13_move_140 : decode cX13_move 140 = .ok (.putfield 193, 3) := by decide +kernel
theorem dX13_move_143 : decode cX13_move 143 = .ok (.aload 6, 2) := by decide +kernel
theorem dX13_move_145 : decode cX13_move 145 = .ok (.iconst (-1), 1) := by decide +kernel
theorem dX13_move_146 : decode cX13_move 146 = .ok (.invokevirtual 170, 3) := by decide +kernel
theorem dX13_move_149 : decode cX13_move 149 = .ok (.aload_n 0, 1) := by decide +kernel
theorem dX13_move_150 : decode cX13_move 150 = .ok (.aload 6, 2) := by decide +kernel
theorem dX13_move_152 : decode cX13_move 152 = .ok (.getfield 193, 3) := by decide +kernel
theorem dX13_move_155 : decode cX13_move 155 = .ok (.invokevirtual 86, 3) := by decide +kernel
theorem dX13_move_158 : decode cX13_move 158 = .ok (.ireturn, 1) := by decide +kernel
theorem wd_825 : Cond.fieldLink RX12 135 RX12 "undone" "I" ∈ lw_good := mem_t5 129 (by decide +kernel) rfl
theorem wd_826 : Cond.fieldLink RX12 104 RX12 "latest" "[I" ∈ lw_good := mem_t5 181 (by decide +kernel) rfl
theorem wd_827 : Cond.methodLink RX13 170 yX12_remember ∈ lw_good := mem_t6 227 (by decide +kernel) rfl
theorem wd_828 : Cond.instanceMethod yX12_remember ∈ lw_good := mem_t6 228 (by decide +kernel) rfl
theorem wd_829 : Cond.selects RX12 yX12_remember yX12_remember ∈ lw_good := mem_t6 229 (by decide +kernel) rfl
theorem wd_830 : Cond.code yX12_remember cX12_remember 3 none ∈ lw_good := mem_t6 230 rfl rfl
theorem wd_831 : Cond.fieldLink RX13 89 RX13 "partnerCount" "I" ∈ lw_good := mem_t6 64 (by decide +kernel) rfl
theorem wd_832 : Cond.methodLink RX13 138 yX13_begins ∈ lw_good := mem_t6 180 (by decide +kernel) rfl
theorem wd_833 : Cond.instanceMethod yX13_begins ∈ lw_good := mem_t6 182 (by decide +kernel) rfl
theorem wd_834 : Cond.selects RX13 yX13_begins yX13_begins ∈ lw_good := mem_p 33 (by decide +kernel) rfl
theorem wd_835 : Cond.code yX13_begins cX13_begins 7 (some .int) ∈ lw_good := mem_t6 183 rfl rfl
/-- field j of House a is a natural below b -/
def FL (a j b : Nat) (M : Hp) : Prop := ∃ (fs : List Value) (n : Nat), M a = .inr (12, fs) ∧ fs[j]? = some (.int (nI n)) ∧ n < b
theorem le24n {n : Nat} (h : n ≤ 24) : (-1000000) ≤ nI n ∧ nI n ≤ 24 := by
  constructor
  · apply Int32.le_iff_toInt_le.mpr
    rw [nI_toInt (by omega), show (-1000000 : Int32).toInt = -1000000 from rfl]
    omega
  · exact nI_le h (by decide)
theorem nar01 (x : Int32) : vp_nar .boolean x = 0 ∨ vp_nar .boolean x = 1 := by
  show x &&& 1 = 0 ∨ x &&& 1 = 1
  have e : (x &&& 1).toBitVec = x.toBitVec &&& 1#32 := rfl
  have h : x.toBitVec &&& 1#32 = 0#32 ∨ x.toBitVec &&& 1#32 = 1#32 := by
    have h1 : (x.toBitVec &&& 1#32).toNat = x.toBitVec.toNat % 2 := by
      rw [BitVec.toNat_and]
      exact Nat.and_one_is_mod _
    rcases Nat.mod_two_eq_zero_or_one x.toBitVec.toNat with q | q
    · exact Or.inl (BitVec.eq_of_toNat_eq (by rw [h1, q]; rfl))
    · exact Or.inr (BitVec.eq_of_toNat_eq (by rw [h1, q]; rfl))
  rcases h with h | h
  · exact Or.inl (Int32.toBitVec_inj.mp (e.trans h))
  · exact Or.inr (Int32.toBitVec_inj.mp (e.trans h))
set_option maxHeartbeats 4000000 in
set_option maxRecDepth 100000 in
theorem r_rememberN (l : Launch) (D : va_G) (cy : Nat → ClassId) (K : Kp) (L : List Nat) (M : Hp) (sz : Nat) (oa : Nat) (k1 : Nat) (hW : WOM cy K L M) (ia : isk K L oa 12 0) (nk1 : k1 < 1000) : Met l yX12_remember (wsM yX12_remember cX12_remember 3 none) ({ frames := 0, cells := 0, slots := 0, locals := 0 }) (va_Pc [.ref oa, .int (nI k1)] (PG D cy [] L M sz)) (va_Qv (fun (M9 : Hp) => WOM cy K L M9 ∧ fr K L [12, 36] M M9 ∧ fG K L [16] M M9 ∧ (True)) (fun M9 t => PQ D [] L M9 (va_A ([] ++ va_pl L M) sz) t) (va_A ([] ++ va_pl L M) sz)) 0 0 (va_A ([] ++ va_pl L M) sz) := by
  refine Met.ofW (cc := cX12_remember) (maxL := 3) (ret := none) (by decide) rfl ?_
  intro p e s m args below meth c s₁ B hml hv
  obtain ⟨rfl, hsz, hP, hK, hD0, hN⟩ := hv
  have hx := B.exec
  have hb := B.bytes
  have hr := B.returns
  have hts := atoms_spec (ws := (wsM yX12_remember cX12_remember 3 none)) B.pre
  have hg : ∀ w ∈ lw_good, w.before _ s = true := fun w h => hts w (List.mem_cons_of_mem _ h)
  have hown : s.vm.findClass RX12 = some m.cls := findClass_of_methodNamed B.named
  have hlocks := B.notSynchronized
  subst hsz
  have hD := hD0.self (sz := s.heap.size)
  generalize hAe : va_A ([] ++ va_pl L M) s.heap.size = A at hD ⊢
  have hA : ∀ q : Nat, s.heap.size ≤ q → A q := fun q h => by rw [← hAe]; exact Or.inr h
  have hS : va_S A s.heap s.heap [] := va_S.rf
  have hl := lv_entry ([.ref oa, .int (nI k1)]) (n := 3) (Nat.le_of_ble_eq_true rfl)
  rw [lg_entry_eq]
  generalize (lg_sl ([.ref oa, .int (nI k1)]) ++ List.replicate (3 - (lg_sl ([.ref oa, .int (nI k1)])).length) Slot.unset).toArray = ls at hl ⊢
  refine W.nameQ (fun Q hQ => ?_)
  refine W.nameR (fun R hR => ?_)
  have hRf : 0 ≤ R.frames := by rw [hR]; exact Nat.le_of_ble_eq_true rfl
  have hRl : 0 ≤ R.locals := by rw [hR]; exact Nat.le_of_ble_eq_true rfl
  have hRc : 0 ≤ R.cells := by rw [hR]; exact Nat.le_of_ble_eq_true rfl
  have hRs : 0 ≤ R.slots := by rw [hR]; exact Nat.le_of_ble_eq_true rfl
  have hF : fr K L [12, 36] M M := fr.rf
  have hG : fG K L [16] M M := fG.rf
  have hl : lv_has ls 3 [(0, .ref oa), (1, .int (nI k1))] := hl
  refine lv_aload_n hx hb dX12_remember_0 rfl (lv_at hl 0 rfl) ?_
  obtain ⟨fs1, hM1, hn1, hl1⟩ := hW.open_12 ia
  obtain ⟨v2, hv2, hc2⟩ : ∃ v : Nat, fs1[16]? = some (.int (nI v) : Value) ∧ v ≤ 60 := hl1 16 (by decide)
  refine pg_get (D := D) (ci := 12) (v := .int (nI v2)) (C := RX12) (T := TX12) (N := 51) hx hb hg inG12 hown hK hP ia.1 hM1 rfl 16 (by decide) (hg _ wd_825) (fun _ h9 => h9) hv2 dX12_remember_1 ?_
  refine lv_bipush (v := 60) hx hb dX12_remember_4 (by decide) ?_
  refine lv_icmp_ne (tgt := 47) hx hb dX12_remember_6 (by decide) (fun c_3 => ?_) (fun c_3 => ?_)
  · have hz := rfl (a := 0)
    have n_4 : ¬ (v2 = 60) := fun q => c_3 ((iEQ (a := v2) (b := 60) (by omega) (by omega)).mpr q)
    refine lv_aload_n hx hb dX12_remember_47 rfl (lv_at hl 0 rfl) ?_
    obtain ⟨v5, hv5, hc5⟩ : ∃ v : Nat, fs1[43]? = some (.ref v : Value) ∧ isk K L v 36 60 := hl1 43 (by decide)
    refine pg_get (D := D) (ci := 12) (v := .ref v5) (C := RX12) (T := TX12) (N := 51) hx hb hg inG12 hown hK hP ia.1 hM1 rfl 43 (by decide) (hg _ wd_826) (fun _ h9 => h9) hv5 dX12_remember_48 ?_
    refine lv_aload_n hx hb dX12_remember_51 rfl (lv_at hl 0 rfl) ?_
    refine pg_get (D := D) (ci := 12) (v := .int (nI v2)) (C := RX12) (T := TX12) (N := 51) hx hb hg inG12 hown hK hP ia.1 hM1 rfl 16 (by decide) (hg _ wd_825) (fun _ h9 => h9) hv2 dX12_remember_52 ?_
    refine lv_iload_n hx hb dX12_remember_55 rfl (lv_at hl 1 rfl) ?_
    obtain ⟨f6, hM6, hf6⟩ := hW.open_36 hc5
    refine pg_iast hx hb hK hP hD hS hc5.1 0 hM6 rfl (inbN v2 60 (by omega) (by omega)) dX12_remember_56 (fun H_7 locs hP hD hS => ?_)
    obtain ⟨M_8, eM_8⟩ : ∃ M1 : Hp, M1 = va_up M v5 (.inl (cy 14, 60, .inl (upd f6 ((nI v2) : Int32).toNatClampNeg (nI k1)))) := ⟨_, rfl⟩
    have hP : va_P D vwCl ([] ++ va_pl L M_8) H_7 := by rw [eM_8]; exact hP
    have hD : va_D A ([] ++ va_pl L M_8) := by rw [eM_8]; exact hD
    have hW : WOM cy K L M_8 := by rw [eM_8]; exact hW.up_36 hc5 ⟨_, rfl, (updP (P := fun z => (z = -1 ∨ ∃ c : Nat, c < 1000 ∧ z = nI c)) hf6 (Or.inr ⟨k1, by omega, rfl⟩))⟩
    have hF : fr K L [12, 36] M M_8 := by rw [eM_8]; exact hF.up hc5 (by decide)
    have hG : fG K L [16] M M_8 := by rw [eM_8]; exact hG.arr hc5 (by decide)
    have hM_9 : M_8 v5 = .inl (cy 14, 60, .inl (upd f6 ((nI v2) : Int32).toNatClampNeg (nI k1))) := by rw [eM_8]; exact va_up_self _ _ _
    have hM_10 : M_8 oa = .inr (12, fs1) := by rw [eM_8, va_up_ne _ _ (ia.neT hc5 (by decide))]; exact hM1
    have hf_12 : ∀ j, j < 60 → ((upd f6 ((nI v2) : Int32).toNatClampNeg (nI k1)) j = -1 ∨ ∃ c : Nat, c < 1000 ∧ (upd f6 ((nI v2) : Int32).toNatClampNeg (nI k1)) j = nI c) := (updP (P := fun z => (z = -1 ∨ ∃ c : Nat, c < 1000 ∧ z = nI c)) hf6 (Or.inr ⟨k1, by omega, rfl⟩))
    obtain ⟨f_11, ef_11⟩ : ∃ f : Nat → Int32, f = upd f6 ((nI v2) : Int32).toNatClampNeg (nI k1) := ⟨_, rfl⟩
    rw [← ef_11] at hM_9 hf_12
    clear ef_11
    refine lv_aload_n hx hb dX12_remember_57 rfl (lv_at hl 0 rfl) ?_
    refine lv_dup hx hb dX12_remember_58 rfl ?_
    refine pg_get (D := D) (ci := 12) (v := .int (nI v2)) (C := RX12) (T := TX12) (N := 51) hx hb hg inG12 hown hK hP ia.1 hM_10 rfl 16 (by decide) (hg _ wd_825) (fun _ h9 => h9) hv2 dX12_remember_59 ?_
    refine lv_iconst (v := 1) hx hb dX12_remember_62 (by decide) ?_
    refine lv_iadd hx hb dX12_remember_63 ?_
    refine lv_topi (fun f_13 ef_13 => ?_)
    obtain rfl : f_13 = (nI (v2 + 1)) := ef_13.trans (nI_add v2 1)
    refine pg_put (D := D) (ci := 12) (v := .int (nI (v2 + 1))) (ty := .int) (C := RX12) (T := TX12) (N := 51) hx hb hg inG12 tyX12 tyX12_ok nmX12 hown hK hP hD hS ia.1 hM_10 rfl 16 (by decide) (hg _ wd_825) (fun _ h9 => h9) rfl (by decide +kernel) rfl rfl (by rw [hn1]; decide) dX12_remember_64 (fun H_14 locs hP hD hS => ?_)
    have hs_17 : (fs1.set 16 (.int (nI (v2 + 1))))[16]? = some (.int (nI (v2 + 1))) := List.getElem?_set_self (by rw [hn1]; decide)
    have hk_16 := fld12_set (k := 16) (w := .int (nI (v2 + 1))) hl1 (show fld12 K L 16 (fs1.set 16 (.int (nI (v2 + 1)))) from ⟨(v2 + 1), hs_17, by omega⟩)
    have hn_18 : (fs1.set 16 (.int (nI (v2 + 1)))).length = 51 := by rw [List.length_set]; exact hn1
    have hv_19 : (fs1.set 16 (.int (nI (v2 + 1))))[43]? = some (.ref v5) := by rw [List.getElem?_set_ne (by decide)]; exact hv5
    have hb_20 : (v2 + 1) ≤ 60 := by omega
    obtain ⟨M_21, eM_21⟩ : ∃ M1 : Hp, M1 = va_up M_8 oa (.inr (12, fs1.set 16 (.int (nI (v2 + 1))))) := ⟨_, rfl⟩
    have hP : va_P D vwCl ([] ++ va_pl L M_21) H_14 := by rw [eM_21]; exact hP
    have hD : va_D A ([] ++ va_pl L M_21) := by rw [eM_21]; exact hD
    have hW : WOM cy K L M_21 := by rw [eM_21]; exact hW.up_12 ia ⟨_, rfl, hn_18, hk_16⟩
    have hF : fr K L [12, 36] M M_21 := by rw [eM_21]; exact hF.up ia (by decide)
    have hG : fG K L [16] M M_21 := by rw [eM_21]; exact hG.up hM_10 (by decide)
    have hM_22 : M_21 oa = .inr (12, fs1.set 16 (.int (nI (v2 + 1)))) := by rw [eM_21]; exact va_up_self _ _ _
    have hM_23 : M_21 v5 = .inl (cy 14, 60, .inl (f_11)) := by rw [eM_21, va_up_ne _ _ (hc5.neT ia (by decide))]; exact hM_9
    rw [hQ]
    exact W.vret hx hb hr (fun t ht hW9 => ⟨⟨M_21, rfl, ⟨hW, hF, hG, trivial⟩, ⟨by rw [ht]; exact hP, hD⟩⟩, hS.F ht⟩) hS.2.2 dX12_remember_67
  · have hz := rfl (a := 0)
    have n_24 : v2 = 60 := (iEQ (a := v2) (b := 60) (by omega) (by omega)).mp c_3
    refine lv_iconst (v := 1) hx hb dX12_remember_9 (by decide) ?_
    refine lv_istore_n (lv' := [(2, .int 1), (0, .ref oa), (1, .int (nI k1))]) hx hb dX12_remember_10 rfl hl (by decide) rfl (fun ls hl => ?_)
    have key_25 : ∀ (fu_27 : Nat) (v2w28 : Nat) (M_31 : Hp) (H_32 : Heap) (locs : List Loc) (ls : Array Slot), 60 - v2w28 < fu_27 → M_31 oa = .inr (12, fs1) → 1 ≤ v2w28 → v2w28 ≤ 60 → WOM cy K L M_31 → fr K L [12, 36] M M_31 → fG K L [16] M M_31 → va_P D vwCl ([] ++ va_pl L M_31) H_32 → va_D A ([] ++ va_pl L M_31) → va_S A s.heap H_32 locs → lv_has ls 3 [(2, .int (nI v2w28)), (0, .ref oa), (1, .int (nI k1))] → W p l e R s m ([.ref oa, .int (nI k1)] : List Value).toArray below meth c H_32 locs 0 0 Q (F0 m 11 ls []) := by
      intro fu_27
      induction fu_27 with
      | zero => intro v2w28 M_31 H_32 locs ls h; exact absurd h (Nat.not_lt_zero _)
      | succ fu_27 ih_26 =>
        intro v2w28 M_31 H_32 locs ls hfu hM_33 hx_29 hx_30 hW hF hG hP hD hS hl
        refine lv_iload_n hx hb dX12_remember_11 rfl (lv_at hl 0 rfl) ?_
        refine lv_bipush (v := 60) hx hb dX12_remember_12 (by decide) ?_
        refine lv_icmp_ge (tgt := 37) hx hb dX12_remember_14 (by decide) (fun c_34 => ?_) (fun c_34 => ?_)
        · have hz := rfl (a := 0)
          have n_35 : 60 ≤ v2w28 := (iLE (a := 60) (b := v2w28) (by omega) (by omega)).mp c_34
          refine lv_aload_n hx hb dX12_remember_37 rfl (lv_at hl 1 rfl) ?_
          refine lv_dup hx hb dX12_remember_38 rfl ?_
          refine pg_get (D := D) (ci := 12) (v := .int (nI v2)) (C := RX12) (T := TX12) (N := 51) hx hb hg inG12 hown hK hP ia.1 hM_33 rfl 16 (by decide) (hg _ wd_825) (fun _ h9 => h9) hv2 dX12_remember_39 ?_
          refine lv_iconst (v := 1) hx hb dX12_remember_42 (by decide) ?_
          refine lv_isub hx hb dX12_remember_43 ?_
          refine lv_topi (fun f_36 ef_36 => ?_)
          obtain rfl : f_36 = (nI (v2 - 1)) := ef_36.trans (nI_prd (by omega))
          refine pg_put (D := D) (ci := 12) (v := .int (nI (v2 - 1))) (ty := .int) (C := RX12) (T := TX12) (N := 51) hx hb hg inG12 tyX12 tyX12_ok nmX12 hown hK hP hD hS ia.1 hM_33 rfl 16 (by decide) (hg _ wd_825) (fun _ h9 => h9) rfl (by decide +kernel) rfl rfl (by rw [hn1]; decide) dX12_remember_44 (fun H_37 locs hP hD hS => ?_)
          have hs_40 : (fs1.set 16 (.int (nI (v2 - 1))))[16]? = some (.int (nI (v2 - 1))) := List.getElem?_set_self (by rw [hn1]; decide)
          have hk_39 := fld12_set (k := 16) (w := .int (nI (v2 - 1))) hl1 (show fld12 K L 16 (fs1.set 16 (.int (nI (v2 - 1)))) from ⟨(v2 - 1), hs_40, by omega⟩)
          have hn_41 : (fs1.set 16 (.int (nI (v2 - 1)))).length = 51 := by rw [List.length_set]; exact hn1
          have hb_42 : (v2 - 1) ≤ 60 := by omega
          obtain ⟨M_43, eM_43⟩ : ∃ M1 : Hp, M1 = va_up M_31 oa (.inr (12, fs1.set 16 (.int (nI (v2 - 1))))) := ⟨_, rfl⟩
          have hP : va_P D vwCl ([] ++ va_pl L M_43) H_37 := by rw [eM_43]; exact hP
          have hD : va_D A ([] ++ va_pl L M_43) := by rw [eM_43]; exact hD
          have hW : WOM cy K L M_43 := by rw [eM_43]; exact hW.up_12 ia ⟨_, rfl, hn_41, hk_39⟩
          have hF : fr K L [12, 36] M M_43 := by rw [eM_43]; exact hF.up ia (by decide)
          have hG : fG K L [16] M M_43 := by rw [eM_43]; exact hG.up hM_33 (by decide)
          have hM_44 : M_43 oa = .inr (12, fs1.set 16 (.int (nI (v2 - 1)))) := by rw [eM_43]; exact va_up_self _ _ _
          refine lv_aload_n hx hb dX12_remember_47 rfl (lv_at hl 1 rfl) ?_
          obtain ⟨v45, hv45, hc45⟩ : ∃ v : Nat, (fs1.set 16 (.int (nI (v2 - 1))))[43]? = some (.ref v : Value) ∧ isk K L v 36 60 := hk_39 43 (by decide)
          refine pg_get (D := D) (ci := 12) (v := .ref v45) (C := RX12) (T := TX12) (N := 51) hx hb hg inG12 hown hK hP ia.1 hM_44 rfl 43 (by decide) (hg _ wd_826) (fun _ h9 => h9) hv45 dX12_remember_48 ?_
          refine lv_aload_n hx hb dX12_remember_51 rfl (lv_at hl 1 rfl) ?_
          refine pg_get (D := D) (ci := 12) (v := .int (nI (v2 - 1))) (C := RX12) (T := TX12) (N := 51) hx hb hg inG12 hown hK hP ia.1 hM_44 rfl 16 (by decide) (hg _ wd_825) (fun _ h9 => h9) hs_40 dX12_remember_52 ?_
          refine lv_iload_n hx hb dX12_remember_55 rfl (lv_at hl 2 rfl) ?_
          obtain ⟨f46, hM46, hf46⟩ := hW.open_36 hc45
          refine pg_iast hx hb hK hP hD hS hc45.1 0 hM46 rfl (inbN (v2 - 1) 60 (by omega) (by omega)) dX12_remember_56 (fun H_47 locs hP hD hS => ?_)
          obtain ⟨M_48, eM_48⟩ : ∃ M1 : Hp, M1 = va_up M_43 v45 (.inl (cy 14, 60, .inl (upd f46 ((nI (v2 - 1)) : Int32).toNatClampNeg (nI k1)))) := ⟨_, rfl⟩
          have hP : va_P D vwCl ([] ++ va_pl L M_48) H_47 := by rw [eM_48]; exact hP
          have hD : va_D A ([] ++ va_pl L M_48) := by rw [eM_48]; exact hD
          have hW : WOM cy K L M_48 := by rw [eM_48]; exact hW.up_36 hc45 ⟨_, rfl, (updP (P := fun z => (z = -1 ∨ ∃ c : Nat, c < 1000 ∧ z = nI c)) hf46 (Or.inr ⟨k1, by omega, rfl⟩))⟩
          have hF : fr K L [12, 36] M M_48 := by rw [eM_48]; exact hF.up hc45 (by decide)
          have hG : fG K L [16] M M_48 := by rw [eM_48]; exact hG.arr hc45 (by decide)
          have hM_49 : M_48 v45 = .inl (cy 14, 60, .inl (upd f46 ((nI (v2 - 1)) : Int32).toNatClampNeg (nI k1))) := by rw [eM_48]; exact va_up_self _ _ _
          have hM_50 : M_48 oa = .inr (12, fs1.set 16 (.int (nI (v2 - 1)))) := by rw [eM_48, va_up_ne _ _ (ia.neT hc45 (by decide))]; exact hM_44
          have hf_52 : ∀ j, j < 60 → ((upd f46 ((nI (v2 - 1)) : Int32).toNatClampNeg (nI k1)) j = -1 ∨ ∃ c : Nat, c < 1000 ∧ (upd f46 ((nI (v2 - 1)) : Int32).toNatClampNeg (nI k1)) j = nI c) := (updP (P := fun z => (z = -1 ∨ ∃ c : Nat, c < 1000 ∧ z = nI c)) hf46 (Or.inr ⟨k1, by omega, rfl⟩))
          obtain ⟨f_51, ef_51⟩ : ∃ f : Nat → Int32, f = upd f46 ((nI (v2 - 1)) : Int32).toNatClampNeg (nI k1) := ⟨_, rfl⟩
          rw [← ef_51] at hM_49 hf_52
          clear ef_51
          refine lv_aload_n hx hb dX12_remember_57 rfl (lv_at hl 1 rfl) ?_
          refine lv_dup hx hb dX12_remember_58 rfl ?_
          refine pg_get (D := D) (ci := 12) (v := .int (nI (v2 - 1))) (C := RX12) (T := TX12) (N := 51) hx hb hg inG12 hown hK hP ia.1 hM_50 rfl 16 (by decide) (hg _ wd_825) (fun _ h9 => h9) hs_40 dX12_remember_59 ?_
          refine lv_iconst (v := 1) hx hb dX12_remember_62 (by decide) ?_
          refine lv_iadd hx hb dX12_remember_63 ?_
          refine lv_topi (fun f_53 ef_53 => ?_)
          obtain rfl : f_53 = (nI ((v2 - 1) + 1)) := ef_53.trans (nI_add (v2 - 1) 1)
          refine pg_put (D := D) (ci := 12) (v := .int (nI ((v2 - 1) + 1))) (ty := .int) (C := RX12) (T := TX12) (N := 51) hx hb hg inG12 tyX12 tyX12_ok nmX12 hown hK hP hD hS ia.1 hM_50 rfl 16 (by decide) (hg _ wd_825) (fun _ h9 => h9) rfl (by decide +kernel) rfl rfl (by rw [hn_41]; decide) dX12_remember_64 (fun H_54 locs hP hD hS => ?_)
          have hs_57 : ((fs1.set 16 (.int (nI (v2 - 1)))).set 16 (.int (nI ((v2 - 1) + 1))))[16]? = some (.int (nI ((v2 - 1) + 1))) := List.getElem?_set_self (by rw [hn_41]; decide)
          have hk_56 := fld12_set (k := 16) (w := .int (nI ((v2 - 1) + 1))) hk_39 (show fld12 K L 16 ((fs1.set 16 (.int (nI (v2 - 1)))).set 16 (.int (nI ((v2 - 1) + 1)))) from ⟨((v2 - 1) + 1), hs_57, by omega⟩)
          have hn_58 : ((fs1.set 16 (.int (nI (v2 - 1)))).set 16 (.int (nI ((v2 - 1) + 1)))).length = 51 := by rw [List.length_set]; exact hn_41
          have hv_59 : ((fs1.set 16 (.int (nI (v2 - 1)))).set 16 (.int (nI ((v2 - 1) + 1))))[43]? = some (.ref v45) := by rw [List.getElem?_set_ne (by decide)]; exact hv45
          have hb_60 : ((v2 - 1) + 1) ≤ 60 := by omega
          obtain ⟨M_61, eM_61⟩ : ∃ M1 : Hp, M1 = va_up M_48 oa (.inr (12, (fs1.set 16 (.int (nI (v2 - 1)))).set 16 (.int (nI ((v2 - 1) + 1))))) := ⟨_, rfl⟩
          have hP : va_P D vwCl ([] ++ va_pl L M_61) H_54 := by rw [eM_61]; exact hP
          have hD : va_D A ([] ++ va_pl L M_61) := by rw [eM_61]; exact hD
          have hW : WOM cy K L M_61 := by rw [eM_61]; exact hW.up_12 ia ⟨_, rfl, hn_58, hk_56⟩
          have hF : fr K L [12, 36] M M_61 := by rw [eM_61]; exact hF.up ia (by decide)
          have hG : fG K L [16] M M_61 := by rw [eM_61]; exact hG.up hM_50 (by decide)
          have hM_62 : M_61 oa = .inr (12, (fs1.set 16 (.int (nI (v2 - 1)))).set 16 (.int (nI ((v2 - 1) + 1)))) := by rw [eM_61]; exact va_up_self _ _ _
          have hM_63 : M_61 v45 = .inl (cy 14, 60, .inl (f_51)) := by rw [eM_61, va_up_ne _ _ (hc45.neT ia (by decide))]; exact hM_49
          rw [hQ]
          exact W.vret hx hb hr (fun t ht hW9 => ⟨⟨M_61, rfl, ⟨hW, hF, hG, trivial⟩, ⟨by rw [ht]; exact hP, hD⟩⟩, hS.F ht⟩) hS.2.2 dX12_remember_67
        · have hz := rfl (a := 0)
          have n_64 : ¬ (60 ≤ v2w28) := fun q => c_34 ((iLE (a := 60) (b := v2w28) (by omega) (by omega)).mpr q)
          refine lv_aload_n hx hb dX12_remember_17 rfl (lv_at hl 1 rfl) ?_
          obtain ⟨v65, hv65, hc65⟩ : ∃ v : Nat, fs1[43]? = some (.ref v : Value) ∧ isk K L v 36 60 := hl1 43 (by decide)
          refine pg_get (D := D) (ci := 12) (v := .ref v65) (C := RX12) (T := TX12) (N := 51) hx hb hg inG12 hown hK hP ia.1 hM_33 rfl 43 (by decide) (hg _ wd_826) (fun _ h9 => h9) hv65 dX12_remember_18 ?_
          refine lv_iload_n hx hb dX12_remember_21 rfl (lv_at hl 0 rfl) ?_
          refine lv_iconst (v := 1) hx hb dX12_remember_22 (by decide) ?_
          refine lv_isub hx hb dX12_remember_23 ?_
          refine lv_topi (fun f_66 ef_66 => ?_)
          obtain rfl : f_66 = (nI (v2w28 - 1)) := ef_66.trans (nI_prd (by omega))
          refine lv_aload_n hx hb dX12_remember_24 rfl (lv_at hl 1 rfl) ?_
          refine pg_get (D := D) (ci := 12) (v := .ref v65) (C := RX12) (T := TX12) (N := 51) hx hb hg inG12 hown hK hP ia.1 hM_33 rfl 43 (by decide) (hg _ wd_826) (fun _ h9 => h9) hv65 dX12_remember_25 ?_
          refine lv_iload_n hx hb dX12_remember_28 rfl (lv_at hl 0 rfl) ?_
          obtain ⟨f67, hM67, hf67⟩ := hW.open_36 hc65
          have hi_68 : vp_in (nI v2w28) 60 := (inbN v2w28 60 (by omega) (by omega))
          refine pg_iald hx hb hK hP hc65.1 0 hM67 rfl hi_68 dX12_remember_29 ?_
          have hp_69 := hf67 _ (vp_lt hi_68)
          rcases hp_69 with ec_72 | ⟨c_70, hc_71, ec_72⟩
          · rw [ec_72]
            refine pg_iast hx hb hK hP hD hS hc65.1 0 hM67 rfl (inbN (v2w28 - 1) 60 (by omega) (by omega)) dX12_remember_30 (fun H_73 locs hP hD hS => ?_)
            obtain ⟨M_74, eM_74⟩ : ∃ M1 : Hp, M1 = va_up M_31 v65 (.inl (cy 14, 60, .inl (upd f67 ((nI (v2w28 - 1)) : Int32).toNatClampNeg (-1)))) := ⟨_, rfl⟩
            have hP : va_P D vwCl ([] ++ va_pl L M_74) H_73 := by rw [eM_74]; exact hP
            have hD : va_D A ([] ++ va_pl L M_74) := by rw [eM_74]; exact hD
            have hW : WOM cy K L M_74 := by rw [eM_74]; exact hW.up_36 hc65 ⟨_, rfl, (updP (P := fun z => (z = -1 ∨ ∃ c : Nat, c < 1000 ∧ z = nI c)) hf67 (Or.inl rfl))⟩
            have hF : fr K L [12, 36] M M_74 := by rw [eM_74]; exact hF.up hc65 (by decide)
            have hG : fG K L [16] M M_74 := by rw [eM_74]; exact hG.arr hc65 (by decide)
            have hM_75 : M_74 v65 = .inl (cy 14, 60, .inl (upd f67 ((nI (v2w28 - 1)) : Int32).toNatClampNeg (-1))) := by rw [eM_74]; exact va_up_self _ _ _
            have hM_76 : M_74 oa = .inr (12, fs1) := by rw [eM_74, va_up_ne _ _ (ia.neT hc65 (by decide))]; exact hM_33
            have hf_78 : ∀ j, j < 60 → ((upd f67 ((nI (v2w28 - 1)) : Int32).toNatClampNeg (-1)) j = -1 ∨ ∃ c : Nat, c < 1000 ∧ (upd f67 ((nI (v2w28 - 1)) : Int32).toNatClampNeg (-1)) j = nI c) := (updP (P := fun z => (z = -1 ∨ ∃ c : Nat, c < 1000 ∧ z = nI c)) hf67 (Or.inl rfl))
            obtain ⟨f_77, ef_77⟩ : ∃ f : Nat → Int32, f = upd f67 ((nI (v2w28 - 1)) : Int32).toNatClampNeg (-1) := ⟨_, rfl⟩
            rw [← ef_77] at hM_75 hf_78
            clear ef_77
            refine lv_iinc (v := (nI (v2w28 + 1))) (lv' := [(2, .int (nI (v2w28 + 1))), (0, .ref oa), (1, .int (nI k1))]) hx hb dX12_remember_31 hl (k := 0) rfl (nI_1 v2w28) (by decide) rfl (fun ls hl => ?_)
            refine lv_goto (tgt := 11) hx hb dX12_remember_34 (by decide) ?_
            exact ih_26 (v2w28 + 1) M_74 H_73 _ _ (by omega) hM_76 (by omega) (by omega) hW hF hG hP hD hS (lv_sub hl [0, 1, 2] rfl)
          · rw [ec_72]
            refine pg_iast hx hb hK hP hD hS hc65.1 0 hM67 rfl (inbN (v2w28 - 1) 60 (by omega) (by omega)) dX12_remember_30 (fun H_79 locs hP hD hS => ?_)
            obtain ⟨M_80, eM_80⟩ : ∃ M1 : Hp, M1 = va_up M_31 v65 (.inl (cy 14, 60, .inl (upd f67 ((nI (v2w28 - 1)) : Int32).toNatClampNeg (nI c_70)))) := ⟨_, rfl⟩
            have hP : va_P D vwCl ([] ++ va_pl L M_80) H_79 := by rw [eM_80]; exact hP
            have hD : va_D A ([] ++ va_pl L M_80) := by rw [eM_80]; exact hD
            have hW : WOM cy K L M_80 := by rw [eM_80]; exact hW.up_36 hc65 ⟨_, rfl, (updP (P := fun z => (z = -1 ∨ ∃ c : Nat, c < 1000 ∧ z = nI c)) hf67 (Or.inr ⟨c_70, by omega, rfl⟩))⟩
            have hF : fr K L [12, 36] M M_80 := by rw [eM_80]; exact hF.up hc65 (by decide)
            have hG : fG K L [16] M M_80 := by rw [eM_80]; exact hG.arr hc65 (by decide)
            have hM_81 : M_80 v65 = .inl (cy 14, 60, .inl (upd f67 ((nI (v2w28 - 1)) : Int32).toNatClampNeg (nI c_70))) := by rw [eM_80]; exact va_up_self _ _ _
            have hM_82 : M_80 oa = .inr (12, fs1) := by rw [eM_80, va_up_ne _ _ (ia.neT hc65 (by decide))]; exact hM_33
            have hf_84 : ∀ j, j < 60 → ((upd f67 ((nI (v2w28 - 1)) : Int32).toNatClampNeg (nI c_70)) j = -1 ∨ ∃ c : Nat, c < 1000 ∧ (upd f67 ((nI (v2w28 - 1)) : Int32).toNatClampNeg (nI c_70)) j = nI c) := (updP (P := fun z => (z = -1 ∨ ∃ c : Nat, c < 1000 ∧ z = nI c)) hf67 (Or.inr ⟨c_70, by omega, rfl⟩))
            obtain ⟨f_83, ef_83⟩ : ∃ f : Nat → Int32, f = upd f67 ((nI (v2w28 - 1)) : Int32).toNatClampNeg (nI c_70) := ⟨_, rfl⟩
            rw [← ef_83] at hM_81 hf_84
            clear ef_83
            refine lv_iinc (v := (nI (v2w28 + 1))) (lv' := [(2, .int (nI (v2w28 + 1))), (0, .ref oa), (1, .int (nI k1))]) hx hb dX12_remember_31 hl (k := 0) rfl (nI_1 v2w28) (by decide) rfl (fun ls hl => ?_)
            refine lv_goto (tgt := 11) hx hb dX12_remember_34 (by decide) ?_
            exact ih_26 (v2w28 + 1) M_80 H_79 _ _ (by omega) hM_82 (by omega) (by omega) hW hF hG hP hD hS (lv_sub hl [0, 1, 2] rfl)
    exact key_25 (60 - 1 + 1) 1 M s.heap _ _ (by omega) hM1 (by omega) (by omega) hW hF hG hP hD hS (lv_sub hl [0, 1, 2] rfl)
set_option maxHeartbeats 4000000 in
set_option maxRecDepth 100000 in
theorem r_rememberM (l : Launch) (D : va_G) (cy : Nat → ClassId) (K : Kp) (L : List Nat) (M : Hp) (sz : Nat) (oa : Nat) (hW : WOM cy K L M) (ia : isk K L oa 12 0) : Met l yX12_remember (wsM yX12_remember cX12_remember 3 none) ({ frames := 0, cells := 0, slots := 0, locals := 0 }) (va_Pc [.ref oa, .int (-1)] (PG D cy [] L M sz)) (va_Qv (fun (M9 : Hp) => WOM cy K L M9 ∧ fr K L [12, 36] M M9 ∧ fG K L [16] M M9 ∧ (True)) (fun M9 t => PQ D [] L M9 (va_A ([] ++ va_pl L M) sz) t) (va_A ([] ++ va_pl L M) sz)) 0 0 (va_A ([] ++ va_pl L M) sz) := by
  refine Met.ofW (cc := cX12_remember) (maxL := 3) (ret := none) (by decide) rfl ?_
  intro p e s m args below meth c s₁ B hml hv
  obtain ⟨rfl, hsz, hP, hK, hD0, hN⟩ := hv
  have hx := B.exec
  have hb := B.bytes
  have hr := B.returns
  have hts := atoms_spec (ws := (wsM yX12_remember cX12_remember 3 none)) B.pre
  have hg : ∀ w ∈ lw_good, w.before _ s = true := fun w h => hts w (List.mem_cons_of_mem _ h)
  have hown : s.vm.findClass RX12 = some m.cls := findClass_of_methodNamed B.named
  have hlocks := B.notSynchronized
  subst hsz
  have hD := hD0.self (sz := s.heap.size)
  generalize hAe : va_A ([] ++ va_pl L M) s.heap.size = A at hD ⊢
  have hA : ∀ q : Nat, s.heap.size ≤ q → A q := fun q h => by rw [← hAe]; exact Or.inr h
  have hS : va_S A s.heap s.heap [] := va_S.rf
  have hl := lv_entry ([.ref oa, .int (-1)]) (n := 3) (Nat.le_of_ble_eq_true rfl)
  rw [lg_entry_eq]
  generalize (lg_sl ([.ref oa, .int (-1)]) ++ List.replicate (3 - (lg_sl ([.ref oa, .int (-1)])).length) Slot.unset).toArray = ls at hl ⊢
  refine W.nameQ (fun Q hQ => ?_)
  refine W.nameR (fun R hR => ?_)
  have hRf : 0 ≤ R.frames := by rw [hR]; exact Nat.le_of_ble_eq_true rfl
  have hRl : 0 ≤ R.locals := by rw [hR]; exact Nat.le_of_ble_eq_true rfl
  have hRc : 0 ≤ R.cells := by rw [hR]; exact Nat.le_of_ble_eq_true rfl
  have hRs : 0 ≤ R.slots := by rw [hR]; exact Nat.le_of_ble_eq_true rfl
  have hF : fr K L [12, 36] M M := fr.rf
  have hG : fG K L [16] M M := fG.rf
  have hl : lv_has ls 3 [(0, .ref oa), (1, .int (-1))] := hl
  refine lv_aload_n hx hb dX12_remember_0 rfl (lv_at hl 0 rfl) ?_
  obtain ⟨fs1, hM1, hn1, hl1⟩ := hW.open_12 ia
  obtain ⟨v2, hv2, hc2⟩ : ∃ v : Nat, fs1[16]? = some (.int (nI v) : Value) ∧ v ≤ 60 := hl1 16 (by decide)
  refine pg_get (D := D) (ci := 12) (v := .int (nI v2)) (C := RX12) (T := TX12) (N := 51) hx hb hg inG12 hown hK hP ia.1 hM1 rfl 16 (by decide) (hg _ wd_825) (fun _ h9 => h9) hv2 dX12_remember_1 ?_
  refine lv_bipush (v := 60) hx hb dX12_remember_4 (by decide) ?_
  refine lv_icmp_ne (tgt := 47) hx hb dX12_remember_6 (by decide) (fun c_3 => ?_) (fun c_3 => ?_)
  · have hz := rfl (a := 0)
    have n_4 : ¬ (v2 = 60) := fun q => c_3 ((iEQ (a := v2) (b := 60) (by omega) (by omega)).mpr q)
    refine lv_aload_n hx hb dX12_remember_47 rfl (lv_at hl 0 rfl) ?_
    obtain ⟨v5, hv5, hc5⟩ : ∃ v : Nat, fs1[43]? = some (.ref v : Value) ∧ isk K L v 36 60 := hl1 43 (by decide)
    refine pg_get (D := D) (ci := 12) (v := .ref v5) (C := RX12) (T := TX12) (N := 51) hx hb hg inG12 hown hK hP ia.1 hM1 rfl 43 (by decide) (hg _ wd_826) (fun _ h9 => h9) hv5 dX12_remember_48 ?_
    refine lv_aload_n hx hb dX12_remember_51 rfl (lv_at hl 0 rfl) ?_
    refine pg_get (D := D) (ci := 12) (v := .int (nI v2)) (C := RX12) (T := TX12) (N := 51) hx hb hg inG12 hown hK hP ia.1 hM1 rfl 16 (by decide) (hg _ wd_825) (fun _ h9 => h9) hv2 dX12_remember_52 ?_
    refine lv_iload_n hx hb dX12_remember_55 rfl (lv_at hl 1 rfl) ?_
    obtain ⟨f6, hM6, hf6⟩ := hW.open_36 hc5
    refine pg_iast hx hb hK hP hD hS hc5.1 0 hM6 rfl (inbN v2 60 (by omega) (by omega)) dX12_remember_56 (fun H_7 locs hP hD hS => ?_)
    obtain ⟨M_8, eM_8⟩ : ∃ M1 : Hp, M1 = va_up M v5 (.inl (cy 14, 60, .inl (upd f6 ((nI v2) : Int32).toNatClampNeg (-1)))) := ⟨_, rfl⟩
    have hP : va_P D vwCl ([] ++ va_pl L M_8) H_7 := by rw [eM_8]; exact hP
    have hD : va_D A ([] ++ va_pl L M_8) := by rw [eM_8]; exact hD
    have hW : WOM cy K L M_8 := by rw [eM_8]; exact hW.up_36 hc5 ⟨_, rfl, (updP (P := fun z => (z = -1 ∨ ∃ c : Nat, c < 1000 ∧ z = nI c)) hf6 (Or.inl rfl))⟩
    have hF : fr K L [12, 36] M M_8 := by rw [eM_8]; exact hF.up hc5 (by decide)
    have hG : fG K L [16] M M_8 := by rw [eM_8]; exact hG.arr hc5 (by decide)
    have hM_9 : M_8 v5 = .inl (cy 14, 60, .inl (upd f6 ((nI v2) : Int32).toNatClampNeg (-1))) := by rw [eM_8]; exact va_up_self _ _ _
    have hM_10 : M_8 oa = .inr (12, fs1) := by rw [eM_8, va_up_ne _ _ (ia.neT hc5 (by decide))]; exact hM1
    have hf_12 : ∀ j, j < 60 → ((upd f6 ((nI v2) : Int32).toNatClampNeg (-1)) j = -1 ∨ ∃ c : Nat, c < 1000 ∧ (upd f6 ((nI v2) : Int32).toNatClampNeg (-1)) j = nI c) := (updP (P := fun z => (z = -1 ∨ ∃ c : Nat, c < 1000 ∧ z = nI c)) hf6 (Or.inl rfl))
    obtain ⟨f_11, ef_11⟩ : ∃ f : Nat → Int32, f = upd f6 ((nI v2) : Int32).toNatClampNeg (-1) := ⟨_, rfl⟩
    rw [← ef_11] at hM_9 hf_12
    clear ef_11
    refine lv_aload_n hx hb dX12_remember_57 rfl (lv_at hl 0 rfl) ?_
    refine lv_dup hx hb dX12_remember_58 rfl ?_
    refine pg_get (D := D) (ci := 12) (v := .int (nI v2)) (C := RX12) (T := TX12) (N := 51) hx hb hg inG12 hown hK hP ia.1 hM_10 rfl 16 (by decide) (hg _ wd_825) (fun _ h9 => h9) hv2 dX12_remember_59 ?_
    refine lv_iconst (v := 1) hx hb dX12_remember_62 (by decide) ?_
    refine lv_iadd hx hb dX12_remember_63 ?_
    refine lv_topi (fun f_13 ef_13 => ?_)
    obtain rfl : f_13 = (nI (v2 + 1)) := ef_13.trans (nI_add v2 1)
    refine pg_put (D := D) (ci := 12) (v := .int (nI (v2 + 1))) (ty := .int) (C := RX12) (T := TX12) (N := 51) hx hb hg inG12 tyX12 tyX12_ok nmX12 hown hK hP hD hS ia.1 hM_10 rfl 16 (by decide) (hg _ wd_825) (fun _ h9 => h9) rfl (by decide +kernel) rfl rfl (by rw [hn1]; decide) dX12_remember_64 (fun H_14 locs hP hD hS => ?_)
    have hs_17 : (fs1.set 16 (.int (nI (v2 + 1))))[16]? = some (.int (nI (v2 + 1))) := List.getElem?_set_self (by rw [hn1]; decide)
    have hk_16 := fld12_set (k := 16) (w := .int (nI (v2 + 1))) hl1 (show fld12 K L 16 (fs1.set 16 (.int (nI (v2 + 1)))) from ⟨(v2 + 1), hs_17, by omega⟩)
    have hn_18 : (fs1.set 16 (.int (nI (v2 + 1)))).length = 51 := by rw [List.length_set]; exact hn1
    have hv_19 : (fs1.set 16 (.int (nI (v2 + 1))))[43]? = some (.ref v5) := by rw [List.getElem?_set_ne (by decide)]; exact hv5
    have hb_20 : (v2 + 1) ≤ 60 := by omega
    obtain ⟨M_21, eM_21⟩ : ∃ M1 : Hp, M1 = va_up M_8 oa (.inr (12, fs1.set 16 (.int (nI (v2 + 1))))) := ⟨_, rfl⟩
    have hP : va_P D vwCl ([] ++ va_pl L M_21) H_14 := by rw [eM_21]; exact hP
    have hD : va_D A ([] ++ va_pl L M_21) := by rw [eM_21]; exact hD
    have hW : WOM cy K L M_21 := by rw [eM_21]; exact hW.up_12 ia ⟨_, rfl, hn_18, hk_16⟩
    have hF : fr K L [12, 36] M M_21 := by rw [eM_21]; exact hF.up ia (by decide)
    have hG : fG K L [16] M M_21 := by rw [eM_21]; exact hG.up hM_10 (by decide)
    have hM_22 : M_21 oa = .inr (12, fs1.set 16 (.int (nI (v2 + 1)))) := by rw [eM_21]; exact va_up_self _ _ _
    have hM_23 : M_21 v5 = .inl (cy 14, 60, .inl (f_11)) := by rw [eM_21, va_up_ne _ _ (hc5.neT ia (by decide))]; exact hM_9
    rw [hQ]
    exact W.vret hx hb hr (fun t ht hW9 => ⟨⟨M_21, rfl, ⟨hW, hF, hG, trivial⟩, ⟨by rw [ht]; exact hP, hD⟩⟩, hS.F ht⟩) hS.2.2 dX12_remember_67
  · have hz := rfl (a := 0)
    have n_24 : v2 = 60 := (iEQ (a := v2) (b := 60) (by omega) (by omega)).mp c_3
    refine lv_iconst (v := 1) hx hb dX12_remember_9 (by decide) ?_
    refine lv_istore_n (lv' := [(2, .int 1), (0, .ref oa), (1, .int (-1))]) hx hb dX12_remember_10 rfl hl (by decide) rfl (fun ls hl => ?_)
    have key_25 : ∀ (fu_27 : Nat) (v2w28 : Nat) (M_31 : Hp) (H_32 : Heap) (locs : List Loc) (ls : Array Slot), 60 - v2w28 < fu_27 → M_31 oa = .inr (12, fs1) → 1 ≤ v2w28 → v2w28 ≤ 60 → WOM cy K L M_31 → fr K L [12, 36] M M_31 → fG K L [16] M M_31 → va_P D vwCl ([] ++ va_pl L M_31) H_32 → va_D A ([] ++ va_pl L M_31) → va_S A s.heap H_32 locs → lv_has ls 3 [(2, .int (nI v2w28)), (0, .ref oa), (1, .int (-1))] → W p l e R s m ([.ref oa, .int (-1)] : List Value).toArray below meth c H_32 locs 0 0 Q (F0 m 11 ls []) := by
      intro fu_27
      induction fu_27 with
      | zero => intro v2w28 M_31 H_32 locs ls h; exact absurd h (Nat.not_lt_zero _)
      | succ fu_27 ih_26 =>
        intro v2w28 M_31 H_32 locs ls hfu hM_33 hx_29 hx_30 hW hF hG hP hD hS hl
        refine lv_iload_n hx hb dX12_remember_11 rfl (lv_at hl 0 rfl) ?_
        refine lv_bipush (v := 60) hx hb dX12_remember_12 (by decide) ?_
        refine lv_icmp_ge (tgt := 37) hx hb dX12_remember_14 (by decide) (fun c_34 => ?_) (fun c_34 => ?_)
        · have hz := rfl (a := 0)
          have n_35 : 60 ≤ v2w28 := (iLE (a := 60) (b := v2w28) (by omega) (by omega)).mp c_34
          refine lv_aload_n hx hb dX12_remember_37 rfl (lv_at hl 1 rfl) ?_
          refine lv_dup hx hb dX12_remember_38 rfl ?_
          refine pg_get (D := D) (ci := 12) (v := .int (nI v2)) (C := RX12) (T := TX12) (N := 51) hx hb hg inG12 hown hK hP ia.1 hM_33 rfl 16 (by decide) (hg _ wd_825) (fun _ h9 => h9) hv2 dX12_remember_39 ?_
          refine lv_iconst (v := 1) hx hb dX12_remember_42 (by decide) ?_
          refine lv_isub hx hb dX12_remember_43 ?_
          refine lv_topi (fun f_36 ef_36 => ?_)
          obtain rfl : f_36 = (nI (v2 - 1)) := ef_36.trans (nI_prd (by omega))
          refine pg_put (D := D) (ci := 12) (v := .int (nI (v2 - 1))) (ty := .int) (C := RX12) (T := TX12) (N := 51) hx hb hg inG12 tyX12 tyX12_ok nmX12 hown hK hP hD hS ia.1 hM_33 rfl 16 (by decide) (hg _ wd_825) (fun _ h9 => h9) rfl (by decide +kernel) rfl rfl (by rw [hn1]; decide) dX12_remember_44 (fun H_37 locs hP hD hS => ?_)
          have hs_40 : (fs1.set 16 (.int (nI (v2 - 1))))[16]? = some (.int (nI (v2 - 1))) := List.getElem?_set_self (by rw [hn1]; decide)
          have hk_39 := fld12_set (k := 16) (w := .int (nI (v2 - 1))) hl1 (show fld12 K L 16 (fs1.set 16 (.int (nI (v2 - 1)))) from ⟨(v2 - 1), hs_40, by omega⟩)
          have hn_41 : (fs1.set 16 (.int (nI (v2 - 1)))).length = 51 := by rw [List.length_set]; exact hn1
          have hb_42 : (v2 - 1) ≤ 60 := by omega
          obtain ⟨M_43, eM_43⟩ : ∃ M1 : Hp, M1 = va_up M_31 oa (.inr (12, fs1.set 16 (.int (nI (v2 - 1))))) := ⟨_, rfl⟩
          have hP : va_P D vwCl ([] ++ va_pl L M_43) H_37 := by rw [eM_43]; exact hP
          have hD : va_D A ([] ++ va_pl L M_43) := by rw [eM_43]; exact hD
          have hW : WOM cy K L M_43 := by rw [eM_43]; exact hW.up_12 ia ⟨_, rfl, hn_41, hk_39⟩
          have hF : fr K L [12, 36] M M_43 := by rw [eM_43]; exact hF.up ia (by decide)
          have hG : fG K L [16] M M_43 := by rw [eM_43]; exact hG.up hM_33 (by decide)
          have hM_44 : M_43 oa = .inr (12, fs1.set 16 (.int (nI (v2 - 1)))) := by rw [eM_43]; exact va_up_self _ _ _
          refine lv_aload_n hx hb dX12_remember_47 rfl (lv_at hl 1 rfl) ?_
          obtain ⟨v45, hv45, hc45⟩ : ∃ v : Nat, (fs1.set 16 (.int (nI (v2 - 1))))[43]? = some (.ref v : Value) ∧ isk K L v 36 60 := hk_39 43 (by decide)
          refine pg_get (D := D) (ci := 12) (v := .ref v45) (C := RX12) (T := TX12) (N := 51) hx hb hg inG12 hown hK hP ia.1 hM_44 rfl 43 (by decide) (hg _ wd_826) (fun _ h9 => h9) hv45 dX12_remember_48 ?_
          refine lv_aload_n hx hb dX12_remember_51 rfl (lv_at hl 1 rfl) ?_
          refine pg_get (D := D) (ci := 12) (v := .int (nI (v2 - 1))) (C := RX12) (T := TX12) (N := 51) hx hb hg inG12 hown hK hP ia.1 hM_44 rfl 16 (by decide) (hg _ wd_825) (fun _ h9 => h9) hs_40 dX12_remember_52 ?_
          refine lv_iload_n hx hb dX12_remember_55 rfl (lv_at hl 2 rfl) ?_
          obtain ⟨f46, hM46, hf46⟩ := hW.open_36 hc45
          refine pg_iast hx hb hK hP hD hS hc45.1 0 hM46 rfl (inbN (v2 - 1) 60 (by omega) (by omega)) dX12_remember_56 (fun H_47 locs hP hD hS => ?_)
          obtain ⟨M_48, eM_48⟩ : ∃ M1 : Hp, M1 = va_up M_43 v45 (.inl (cy 14, 60, .inl (upd f46 ((nI (v2 - 1)) : Int32).toNatClampNeg (-1)))) := ⟨_, rfl⟩
          have hP : va_P D vwCl ([] ++ va_pl L M_48) H_47 := by rw [eM_48]; exact hP
          have hD : va_D A ([] ++ va_pl L M_48) := by rw [eM_48]; exact hD
          have hW : WOM cy K L M_48 := by rw [eM_48]; exact hW.up_36 hc45 ⟨_, rfl, (updP (P := fun z => (z = -1 ∨ ∃ c : Nat, c < 1000 ∧ z = nI c)) hf46 (Or.inl rfl))⟩
          have hF : fr K L [12, 36] M M_48 := by rw [eM_48]; exact hF.up hc45 (by decide)
          have hG : fG K L [16] M M_48 := by rw [eM_48]; exact hG.arr hc45 (by decide)
          have hM_49 : M_48 v45 = .inl (cy 14, 60, .inl (upd f46 ((nI (v2 - 1)) : Int32).toNatClampNeg (-1))) := by rw [eM_48]; exact va_up_self _ _ _
          have hM_50 : M_48 oa = .inr (12, fs1.set 16 (.int (nI (v2 - 1)))) := by rw [eM_48, va_up_ne _ _ (ia.neT hc45 (by decide))]; exact hM_44
          have hf_52 : ∀ j, j < 60 → ((upd f46 ((nI (v2 - 1)) : Int32).toNatClampNeg (-1)) j = -1 ∨ ∃ c : Nat, c < 1000 ∧ (upd f46 ((nI (v2 - 1)) : Int32).toNatClampNeg (-1)) j = nI c) := (updP (P := fun z => (z = -1 ∨ ∃ c : Nat, c < 1000 ∧ z = nI c)) hf46 (Or.inl rfl))
          obtain ⟨f_51, ef_51⟩ : ∃ f : Nat → Int32, f = upd f46 ((nI (v2 - 1)) : Int32).toNatClampNeg (-1) := ⟨_, rfl⟩
          rw [← ef_51] at hM_49 hf_52
          clear ef_51
          refine lv_aload_n hx hb dX12_remember_57 rfl (lv_at hl 1 rfl) ?_
          refine lv_dup hx hb dX12_remember_58 rfl ?_
          refine pg_get (D := D) (ci := 12) (v := .int (nI (v2 - 1))) (C := RX12) (T := TX12) (N := 51) hx hb hg inG12 hown hK hP ia.1 hM_50 rfl 16 (by decide) (hg _ wd_825) (fun _ h9 => h9) hs_40 dX12_remember_59 ?_
          refine lv_iconst (v := 1) hx hb dX12_remember_62 (by decide) ?_
          refine lv_iadd hx hb dX12_remember_63 ?_
          refine lv_topi (fun f_53 ef_53 => ?_)
          obtain rfl : f_53 = (nI ((v2 - 1) + 1)) := ef_53.trans (nI_add (v2 - 1) 1)
          refine pg_put (D := D) (ci := 12) (v := .int (nI ((v2 - 1) + 1))) (ty := .int) (C := RX12) (T := TX12) (N := 51) hx hb hg inG12 tyX12 tyX12_ok nmX12 hown hK hP hD hS ia.1 hM_50 rfl 16 (by decide) (hg _ wd_825) (fun _ h9 => h9) rfl (by decide +kernel) rfl rfl (by rw [hn_41]; decide) dX12_remember_64 (fun H_54 locs hP hD hS => ?_)
          have hs_57 : ((fs1.set 16 (.int (nI (v2 - 1)))).set 16 (.int (nI ((v2 - 1) + 1))))[16]? = some (.int (nI ((v2 - 1) + 1))) := List.getElem?_set_self (by rw [hn_41]; decide)
          have hk_56 := fld12_set (k := 16) (w := .int (nI ((v2 - 1) + 1))) hk_39 (show fld12 K L 16 ((fs1.set 16 (.int (nI (v2 - 1)))).set 16 (.int (nI ((v2 - 1) + 1)))) from ⟨((v2 - 1) + 1), hs_57, by omega⟩)
          have hn_58 : ((fs1.set 16 (.int (nI (v2 - 1)))).set 16 (.int (nI ((v2 - 1) + 1)))).length = 51 := by rw [List.length_set]; exact hn_41
          have hv_59 : ((fs1.set 16 (.int (nI (v2 - 1)))).set 16 (.int (nI ((v2 - 1) + 1))))[43]? = some (.ref v45) := by rw [List.getElem?_set_ne (by decide)]; exact hv45
          have hb_60 : ((v2 - 1) + 1) ≤ 60 := by omega
          obtain ⟨M_61, eM_61⟩ : ∃ M1 : Hp, M1 = va_up M_48 oa (.inr (12, (fs1.set 16 (.int (nI (v2 - 1)))).set 16 (.int (nI ((v2 - 1) + 1))))) := ⟨_, rfl⟩
          have hP : va_P D vwCl ([] ++ va_pl L M_61) H_54 := by rw [eM_61]; exact hP
          have hD : va_D A ([] ++ va_pl L M_61) := by rw [eM_61]; exact hD
          have hW : WOM cy K L M_61 := by rw [eM_61]; exact hW.up_12 ia ⟨_, rfl, hn_58, hk_56⟩
          have hF : fr K L [12, 36] M M_61 := by rw [eM_61]; exact hF.up ia (by decide)
          have hG : fG K L [16] M M_61 := by rw [eM_61]; exact hG.up hM_50 (by decide)
          have hM_62 : M_61 oa = .inr (12, (fs1.set 16 (.int (nI (v2 - 1)))).set 16 (.int (nI ((v2 - 1) + 1)))) := by rw [eM_61]; exact va_up_self _ _ _
          have hM_63 : M_61 v45 = .inl (cy 14, 60, .inl (f_51)) := by rw [eM_61, va_up_ne _ _ (hc45.neT ia (by decide))]; exact hM_49
          rw [hQ]
          exact W.vret hx hb hr (fun t ht hW9 => ⟨⟨M_61, rfl, ⟨hW, hF, hG, trivial⟩, ⟨by rw [ht]; exact hP, hD⟩⟩, hS.F ht⟩) hS.2.2 dX12_remember_67
        · have hz := rfl (a := 0)
          have n_64 : ¬ (60 ≤ v2w28) := fun q => c_34 ((iLE (a := 60) (b := v2w28) (by omega) (by omega)).mpr q)
          refine lv_aload_n hx hb dX12_remember_17 rfl (lv_at hl 1 rfl) ?_
          obtain ⟨v65, hv65, hc65⟩ : ∃ v : Nat, fs1[43]? = some (.ref v : Value) ∧ isk K L v 36 60 := hl1 43 (by decide)
          refine pg_get (D := D) (ci := 12) (v := .ref v65) (C := RX12) (T := TX12) (N := 51) hx hb hg inG12 hown hK hP ia.1 hM_33 rfl 43 (by decide) (hg _ wd_826) (fun _ h9 => h9) hv65 dX12_remember_18 ?_
          refine lv_iload_n hx hb dX12_remember_21 rfl (lv_at hl 0 rfl) ?_
          refine lv_iconst (v := 1) hx hb dX12_remember_22 (by decide) ?_
          refine lv_isub hx hb dX12_remember_23 ?_
          refine lv_topi (fun f_66 ef_66 => ?_)
          obtain rfl : f_66 = (nI (v2w28 - 1)) := ef_66.trans (nI_prd (by omega))
          refine lv_aload_n hx hb dX12_remember_24 rfl (lv_at hl 1 rfl) ?_
          refine pg_get (D := D) (ci := 12) (v := .ref v65) (C := RX12) (T := TX12) (N := 51) hx hb hg inG12 hown hK hP ia.1 hM_33 rfl 43 (by decide) (hg _ wd_826) (fun _ h9 => h9) hv65 dX12_remember_25 ?_
          refine lv_iload_n hx hb dX12_remember_28 rfl (lv_at hl 0 rfl) ?_
          obtain ⟨f67, hM67, hf67⟩ := hW.open_36 hc65
          have hi_68 : vp_in (nI v2w28) 60 := (inbN v2w28 60 (by omega) (by omega))
          refine pg_iald hx hb hK hP hc65.1 0 hM67 rfl hi_68 dX12_remember_29 ?_
          have hp_69 := hf67 _ (vp_lt hi_68)
          rcases hp_69 with ec_72 | ⟨c_70, hc_71, ec_72⟩
          · rw [ec_72]
            refine pg_iast hx hb hK hP hD hS hc65.1 0 hM67 rfl (inbN (v2w28 - 1) 60 (by omega) (by omega)) dX12_remember_30 (fun H_73 locs hP hD hS => ?_)
            obtain ⟨M_74, eM_74⟩ : ∃ M1 : Hp, M1 = va_up M_31 v65 (.inl (cy 14, 60, .inl (upd f67 ((nI (v2w28 - 1)) : Int32).toNatClampNeg (-1)))) := ⟨_, rfl⟩
            have hP : va_P D vwCl ([] ++ va_pl L M_74) H_73 := by rw [eM_74]; exact hP
            have hD : va_D A ([] ++ va_pl L M_74) := by rw [eM_74]; exact hD
            have hW : WOM cy K L M_74 := by rw [eM_74]; exact hW.up_36 hc65 ⟨_, rfl, (updP (P := fun z => (z = -1 ∨ ∃ c : Nat, c < 1000 ∧ z = nI c)) hf67 (Or.inl rfl))⟩
            have hF : fr K L [12, 36] M M_74 := by rw [eM_74]; exact hF.up hc65 (by decide)
            have hG : fG K L [16] M M_74 := by rw [eM_74]; exact hG.arr hc65 (by decide)
            have hM_75 : M_74 v65 = .inl (cy 14, 60, .inl (upd f67 ((nI (v2w28 - 1)) : Int32).toNatClampNeg (-1))) := by rw [eM_74]; exact va_up_self _ _ _
            have hM_76 : M_74 oa = .inr (12, fs1) := by rw [eM_74, va_up_ne _ _ (ia.neT hc65 (by decide))]; exact hM_33
            have hf_78 : ∀ j, j < 60 → ((upd f67 ((nI (v2w28 - 1)) : Int32).toNatClampNeg (-1)) j = -1 ∨ ∃ c : Nat, c < 1000 ∧ (upd f67 ((nI (v2w28 - 1)) : Int32).toNatClampNeg (-1)) j = nI c) := (updP (P := fun z => (z = -1 ∨ ∃ c : Nat, c < 1000 ∧ z = nI c)) hf67 (Or.inl rfl))
            obtain ⟨f_77, ef_77⟩ : ∃ f : Nat → Int32, f = upd f67 ((nI (v2w28 - 1)) : Int32).toNatClampNeg (-1) := ⟨_, rfl⟩
            rw [← ef_77] at hM_75 hf_78
            clear ef_77
            refine lv_iinc (v := (nI (v2w28 + 1))) (lv' := [(2, .int (nI (v2w28 + 1))), (0, .ref oa), (1, .int (-1))]) hx hb dX12_remember_31 hl (k := 0) rfl (nI_1 v2w28) (by decide) rfl (fun ls hl => ?_)
            refine lv_goto (tgt := 11) hx hb dX12_remember_34 (by decide) ?_
            exact ih_26 (v2w28 + 1) M_74 H_73 _ _ (by omega) hM_76 (by omega) (by omega) hW hF hG hP hD hS (lv_sub hl [0, 1, 2] rfl)
          · rw [ec_72]
            refine pg_iast hx hb hK hP hD hS hc65.1 0 hM67 rfl (inbN (v2w28 - 1) 60 (by omega) (by omega)) dX12_remember_30 (fun H_79 locs hP hD hS => ?_)
            obtain ⟨M_80, eM_80⟩ : ∃ M1 : Hp, M1 = va_up M_31 v65 (.inl (cy 14, 60, .inl (upd f67 ((nI (v2w28 - 1)) : Int32).toNatClampNeg (nI c_70)))) := ⟨_, rfl⟩
            have hP : va_P D vwCl ([] ++ va_pl L M_80) H_79 := by rw [eM_80]; exact hP
            have hD : va_D A ([] ++ va_pl L M_80) := by rw [eM_80]; exact hD
            have hW : WOM cy K L M_80 := by rw [eM_80]; exact hW.up_36 hc65 ⟨_, rfl, (updP (P := fun z => (z = -1 ∨ ∃ c : Nat, c < 1000 ∧ z = nI c)) hf67 (Or.inr ⟨c_70, by omega, rfl⟩))⟩
            have hF : fr K L [12, 36] M M_80 := by rw [eM_80]; exact hF.up hc65 (by decide)
            have hG : fG K L [16] M M_80 := by rw [eM_80]; exact hG.arr hc65 (by decide)
            have hM_81 : M_80 v65 = .inl (cy 14, 60, .inl (upd f67 ((nI (v2w28 - 1)) : Int32).toNatClampNeg (nI c_70))) := by rw [eM_80]; exact va_up_self _ _ _
            have hM_82 : M_80 oa = .inr (12, fs1) := by rw [eM_80, va_up_ne _ _ (ia.neT hc65 (by decide))]; exact hM_33
            have hf_84 : ∀ j, j < 60 → ((upd f67 ((nI (v2w28 - 1)) : Int32).toNatClampNeg (nI c_70)) j = -1 ∨ ∃ c : Nat, c < 1000 ∧ (upd f67 ((nI (v2w28 - 1)) : Int32).toNatClampNeg (nI c_70)) j = nI c) := (updP (P := fun z => (z = -1 ∨ ∃ c : Nat, c < 1000 ∧ z = nI c)) hf67 (Or.inr ⟨c_70, by omega, rfl⟩))
            obtain ⟨f_83, ef_83⟩ : ∃ f : Nat → Int32, f = upd f67 ((nI (v2w28 - 1)) : Int32).toNatClampNeg (nI c_70) := ⟨_, rfl⟩
            rw [← ef_83] at hM_81 hf_84
            clear ef_83
            refine lv_iinc (v := (nI (v2w28 + 1))) (lv' := [(2, .int (nI (v2w28 + 1))), (0, .ref oa), (1, .int (-1))]) hx hb dX12_remember_31 hl (k := 0) rfl (nI_1 v2w28) (by decide) rfl (fun ls hl => ?_)
            refine lv_goto (tgt := 11) hx hb dX12_remember_34 (by decide) ?_
            exact ih_26 (v2w28 + 1) M_80 H_79 _ _ (by omega) hM_82 (by omega) (by omega) hW hF hG hP hD hS (lv_sub hl [0, 1, 2] rfl)
    exact key_25 (60 - 1 + 1) 1 M s.heap _ _ (by omega) hM1 (by omega) (by omega) hW hF hG hP hD hS (lv_sub hl [0, 1, 2] rfl)
set_option maxHeartbeats 4000000 in
set_option maxRecDepth 100000 in
theorem r_X13_move (l : Launch) (D : va_G) (cy : Nat → ClassId) (K : Kp) (L : List Nat) (M : Hp) (sz : Nat) (za : Nat) (z0 : Int32) (z1 : Nat) (z2 : Nat) (z3 : Nat) (z4 : Int32) (z5 : Int32) (z6 : Nat) (z7 : Nat) (z8 : Nat) (z9 : Nat) (z10 : Nat) (z11 : Nat) (z12 : Nat) (z13 : Nat) (z14 : Nat) (z15 : Nat) (z16 : Nat) (z17 : Nat) (z18 : Int32) (z19 : Nat) (k1 : Int32) (k2 : Int32) (k3 : Int32) (k4 : Int32) (k5 : Int32) (hW : WOM cy K L M) (i1 : isk K L z1 23 8) (b2 : z2 ≤ 8) (b3 : z3 ≤ 40) (i6 : isk K L z6 47 40) (i7 : isk K L z7 48 40) (i8 : isk K L z8 49 8) (i9 : isk K L z9 50 8) (b10 : z10 ≤ 8) (i11 : isk K L z11 32 24) (i12 : isk K L z12 14 24) (i13 : isk K L z13 15 24) (i14 : isk K L z14 15 24) (i15 : isk K L z15 15 24) (b16 : z16 ≤ 24) (i17 : isk K L z17 14 24) (i19 : isk K L z19 15 25) : Met l yX13_move (wsM yX13_move cX13_move 7 (some .int)) ({ frames := 2, cells := 0, slots := 0, locals := 43 }) (va_Pc [.ref za, .int k1, .int k2, .int k3, .int k4, .int k5] (PG D cy [(za, .inr (13, [.int z0, .ref z1, .int (nI z2), .int (nI z3), .int z4, .int z5, .ref z6, .ref z7, .ref z8, .ref z9, .int (nI z10), .ref z11, .ref z12, .ref z13, .ref z14, .ref z15, .int (nI z16), .ref z17, .int z18, .ref z19]))] L M sz)) (va_Qi (fun (r : Int32) (M9 : Hp) => WOM cy K L M9 ∧ fr K L [12, 14, 32, 36, 79, 80, 81] M M9 ∧ fG K L [14, 16] M M9 ∧ (True)) (fun M9 t => ∃ (w4 : Int32) (w5 : Int32), PQ D [(za, .inr (13, [.int 0, .ref z1, .int (nI z2), .int (nI z3), .int w4, .int w5, .ref z6, .ref z7, .ref z8, .ref z9, .int (nI z10), .ref z11, .ref z12, .ref z13, .ref z14, .ref z15, .int (nI z16), .ref z17, .int z18, .ref z19]))] L M9 (va_A ([(za, .inr (13, [.int z0, .ref z1, .int (nI z2), .int (nI z3), .int z4, .int z5, .ref z6, .ref z7, .ref z8, .ref z9, .int (nI z10), .ref z11, .ref z12, .ref z13, .ref z14, .ref z15, .int (nI z16), .ref z17, .int z18, .ref z19]))] ++ va_pl L M) sz) t) (va_A ([(za, .inr (13, [.int z0, .ref z1, .int (nI z2), .int (nI z3), .int z4, .int z5, .ref z6, .ref z7, .ref z8, .ref z9, .int (nI z10), .ref z11, .ref z12, .ref z13, .ref z14, .ref z15, .int (nI z16), .ref z17, .int z18, .ref z19]))] ++ va_pl L M) sz)) 0 0 (va_A ([(za, .inr (13, [.int z0, .ref z1, .int (nI z2), .int (nI z3), .int z4, .int z5, .ref z6, .ref z7, .ref z8, .ref z9, .int (nI z10), .ref z11, .ref z12, .ref z13, .ref z14, .ref z15, .int (nI z16), .ref z17, .int z18, .ref z19]))] ++ va_pl L M) sz) := by
  refine Met.ofW (cc := cX13_move) (maxL := 7) (ret := (some .int)) (by decide) rfl ?_
  intro p e s m args below meth c s₁ B hml hv
  obtain ⟨rfl, hsz, hP, hK, hD0, hN⟩ := hv
  have hx := B.exec
  have hb := B.bytes
  have hr := B.returns
  have hts := atoms_spec (ws := (wsM yX13_move cX13_move 7 (some .int))) B.pre
  have hg : ∀ w ∈ lw_good, w.before _ s = true := fun w h => hts w (List.mem_cons_of_mem _ h)
  have hown : s.vm.findClass RX13 = some m.cls := findClass_of_methodNamed B.named
  have hlocks := B.notSynchronized
  subst hsz
  have hD := hD0.self (sz := s.heap.size)
  generalize hAe : va_A ([(za, .inr (13, [.int z0, .ref z1, .int (nI z2), .int (nI z3), .int z4, .int z5, .ref z6, .ref z7, .ref z8, .ref z9, .int (nI z10), .ref z11, .ref z12, .ref z13, .ref z14, .ref z15, .int (nI z16), .ref z17, .int z18, .ref z19]))] ++ va_pl L M) s.heap.size = A at hD ⊢
  have hA : ∀ q : Nat, s.heap.size ≤ q → A q := fun q h => by rw [← hAe]; exact Or.inr h
  have hS : va_S A s.heap s.heap [] := va_S.rf
  have hl := lv_entry ([.ref za, .int k1, .int k2, .int k3, .int k4, .int k5]) (n := 7) (Nat.le_of_ble_eq_true rfl)
  rw [lg_entry_eq]
  generalize (lg_sl ([.ref za, .int k1, .int k2, .int k3, .int k4, .int k5]) ++ List.replicate (7 - (lg_sl ([.ref za, .int k1, .int k2, .int k3, .int k4, .int k5])).length) Slot.unset).toArray = ls at hl ⊢
  refine W.nameQ (fun Q hQ => ?_)
  refine W.nameR (fun R hR => ?_)
  have hRf : 2 ≤ R.frames := by rw [hR]; exact Nat.le_of_ble_eq_true rfl
  have hRl : 43 ≤ R.locals := by rw [hR]; exact Nat.le_of_ble_eq_true rfl
  have hRc : 0 ≤ R.cells := by rw [hR]; exact Nat.le_of_ble_eq_true rfl
  have hRs : 0 ≤ R.slots := by rw [hR]; exact Nat.le_of_ble_eq_true rfl
  have hF : fr K L [12, 14, 32, 36, 79, 80, 81] M M := fr.rf
  have hG : fG K L [14, 16] M M := fG.rf
  have hl : lv_has ls 7 [(0, .ref za), (1, .int k1), (2, .int k2), (3, .int k3), (4, .int k4), (5, .int k5)] := hl
  refine lv_aload_n hx hb dX13_move_0 rfl (lv_at hl 0 rfl) ?_
  refine lv_iconst (v := 0) hx hb dX13_move_1 (by decide) ?_
  refine va_put (D := D) (ci := 13) (v := .int 0) (ty := .int) (C := RX13) (T := TX13) (N := 20) hx hb hg inG13 tyX13 tyX13_ok nmX13 hown hK hP hD hS 0 rfl rfl 0 (by decide) (hg _ wd_720) (fun _ h9 => h9) rfl (by decide +kernel) rfl rfl (Nat.le_of_ble_eq_true rfl) dX13_move_2 (fun H_1 locs hP hD hS => ?_)
  have hP : va_P D vwCl ([(za, .inr (13, [.int 0, .ref z1, .int (nI z2), .int (nI z3), .int z4, .int z5, .ref z6, .ref z7, .ref z8, .ref z9, .int (nI z10), .ref z11, .ref z12, .ref z13, .ref z14, .ref z15, .int (nI z16), .ref z17, .int z18, .ref z19]))] ++ va_pl L M) H_1 := hP
  have hD : va_D A ([(za, .inr (13, [.int 0, .ref z1, .int (nI z2), .int (nI z3), .int z4, .int z5, .ref z6, .ref z7, .ref z8, .ref z9, .int (nI z10), .ref z11, .ref z12, .ref z13, .ref z14, .ref z15, .int (nI z16), .ref z17, .int z18, .ref z19]))] ++ va_pl L M) := hD
  refine lv_aload_n hx hb dX13_move_5 rfl (lv_at hl 0 rfl) ?_
  refine lv_iload_n hx hb dX13_move_6 rfl (lv_at hl 1 rfl) ?_
  refine lv_iload_n hx hb dX13_move_7 rfl (lv_at hl 2 rfl) ?_
  have hPc : va_P D vwCl ([(za, .inr (13, [.int 0, .ref z1, .int (nI z2), .int (nI z3), .int z4, .int z5, .ref z6, .ref z7, .ref z8, .ref z9, .int (nI z10), .ref z11, .ref z12, .ref z13, .ref z14, .ref z15, .int (nI z16), .ref z17, .int z18, .ref z19]))] ++ va_pl L M) H_1 := hP
  have hDc : va_D A ([(za, .inr (13, [.int 0, .ref z1, .int (nI z2), .int (nI z3), .int z4, .int z5, .ref z6, .ref z7, .ref z8, .ref z9, .int (nI z10), .ref z11, .ref z12, .ref z13, .ref z14, .ref z15, .int (nI z16), .ref z17, .int z18, .ref z19]))] ++ va_pl L M) := hD
  have hFc : ∀ q, va_A ([(za, .inr (13, [.int 0, .ref z1, .int (nI z2), .int (nI z3), .int z4, .int z5, .ref z6, .ref z7, .ref z8, .ref z9, .int (nI z10), .ref z11, .ref z12, .ref z13, .ref z14, .ref z15, .int (nI z16), .ref z17, .int z18, .ref z19]))] ++ va_pl L M) H_1.size q → A q := pg_free hDc hS hA
  refine va_calli (va_runV (As := [.int k1, .int k2]) (rest := []) ⟨hx, hb, hml, hown, hg⟩ (r_X13_isTenure l D cy K L M H_1.size za 0 z1 z2 z3 z4 z5 z6 z7 z8 z9 z10 z11 z12 z13 z14 z15 z16 z17 z18 z19 k1 k2  hW i1 b2 b3 i6 i7 i8 i9 b10 i11 i12 i13 i14 i15 b16 i17 i19) (cwV 2 hg (gV wd_740 wd_741 wd_742 wd_717 wd_743) rfl rfl rfl (by decide +kernel) ⟨(Nat.le_trans (Nat.le_of_ble_eq_true rfl) hRf), (Nat.le_trans (Nat.le_of_ble_eq_true rfl) hRl)⟩) ⟨PG.blind, va_recv hK hP (ci := 13) (q0 := 0) rfl rfl, fun U hU hW => ⟨rfl, PG.at hPc hK hDc hN hU hW⟩⟩ rfl rfl hl.1 rfl (lv_room (Nat.le_of_ble_eq_true rfl)) dX13_move_8 ⟨(Nat.le_trans (Nat.le_of_ble_eq_true rfl) hRc), (Nat.le_trans (Nat.le_of_ble_eq_true rfl) hRs)⟩) hS (fun q _ h => hFc q h) hFc (fun r_3 M_4 t H_2 locs ht hvm hw hB hz1 hk1 hS => ?_)
  have hp_5 := hw
  obtain ⟨hP1, hD1⟩ := hB
  rw [ht] at hP1
  have hP : va_P D vwCl ([(za, .inr (13, [.int 0, .ref z1, .int (nI z2), .int (nI z3), .int z4, .int z5, .ref z6, .ref z7, .ref z8, .ref z9, .int (nI z10), .ref z11, .ref z12, .ref z13, .ref z14, .ref z15, .int (nI z16), .ref z17, .int z18, .ref z19]))] ++ va_pl L M) H_2 := hP1
  have hD : va_D A ([(za, .inr (13, [.int 0, .ref z1, .int (nI z2), .int (nI z3), .int z4, .int z5, .ref z6, .ref z7, .ref z8, .ref z9, .int (nI z10), .ref z11, .ref z12, .ref z13, .ref z14, .ref z15, .int (nI z16), .ref z17, .int z18, .ref z19]))] ++ va_pl L M) := hD1.mono hFc
  rcases hp_5 with ⟨rfl, c_6, c_7, c_8, c_9⟩ | rfl
  · have hz := rfl (a := 0)
    refine lv_if_ne (tgt := 20) hx hb dX13_move_11 (by decide) (fun _ => ?_) (fun c_10 => absurd c_10 (by decide))
    refine lv_iload hx hb dX13_move_20 (lv_at hl 4 rfl) ?_
    have hPc : va_P D vwCl ([] ++ va_pl L M) H_2 := hP.part (cx := []) [] rfl
    have hDc : va_D A ([] ++ va_pl L M) := hD.part (cx := []) [] (by decide) rfl
    have hFc : ∀ q, va_A ([] ++ va_pl L M) H_2.size q → A q := pg_free hDc hS hA
    refine va_calli (va_runS (As := [.int k4]) (rest := []) ⟨hx, hb, hml, hown, hg⟩ (r_X13_isSum l D cy K L M H_2.size k4  hW ) (va_cwS 1 hg (gS wd_774 wd_775 wd_717 wd_776) rfl rfl rfl (by decide +kernel) ⟨(Nat.le_trans (Nat.le_of_ble_eq_true rfl) hRf), (Nat.le_trans (Nat.le_of_ble_eq_true rfl) hRl)⟩) ⟨PG.blind, fun U hU hW => ⟨rfl, PG.at hPc hK hDc hN hU hW⟩⟩ rfl rfl hl.1 rfl (lv_room (Nat.le_of_ble_eq_true rfl)) dX13_move_22 ⟨(Nat.le_trans (Nat.le_of_ble_eq_true rfl) hRc), (Nat.le_trans (Nat.le_of_ble_eq_true rfl) hRs)⟩) hS (fun q _ h => hFc q h) hFc (fun r_12 M_13 t H_11 locs ht hvm hw hB hz1 hk1 hS => ?_)
    have hp_14 := hw
    obtain ⟨hP1, hD1⟩ := hB
    rw [ht] at hP1
    obtain ⟨hP, hD⟩ := va_joinP (X := [(za, .inr (13, [.int 0, .ref z1, .int (nI z2), .int (nI z3), .int z4, .int z5, .ref z6, .ref z7, .ref z8, .ref z9, .int (nI z10), .ref z11, .ref z12, .ref z13, .ref z14, .ref z15, .int (nI z16), .ref z17, .int z18, .ref z19]))]) (cx := []) (wr := [(za, .inr (13, [.int 0, .ref z1, .int (nI z2), .int (nI z3), .int z4, .int z5, .ref z6, .ref z7, .ref z8, .ref z9, .int (nI z10), .ref z11, .ref z12, .ref z13, .ref z14, .ref z15, .int (nI z16), .ref z17, .int z18, .ref z19]))]) (rx := []) (pl := va_pl L M) (pl1 := va_pl L M) hP hD [] [0] rfl rfl (by decide) (by decide) hk1 hFc hP1 hD1
    have hP : va_P D vwCl ([(za, .inr (13, [.int 0, .ref z1, .int (nI z2), .int (nI z3), .int z4, .int z5, .ref z6, .ref z7, .ref z8, .ref z9, .int (nI z10), .ref z11, .ref z12, .ref z13, .ref z14, .ref z15, .int (nI z16), .ref z17, .int z18, .ref z19]))] ++ va_pl L M) H_11 := hP
    have hD : va_D A ([(za, .inr (13, [.int 0, .ref z1, .int (nI z2), .int (nI z3), .int z4, .int z5, .ref z6, .ref z7, .ref z8, .ref z9, .int (nI z10), .ref z11, .ref z12, .ref z13, .ref z14, .ref z15, .int (nI z16), .ref z17, .int z18, .ref z19]))] ++ va_pl L M) := hD
    rcases hp_14 with rfl | rfl
    · have hz := rfl (a := 0)
      refine lv_if_ne (tgt := 34) hx hb dX13_move_25 (by decide) (fun _ => ?_) (fun c_15 => absurd c_15 (by decide))
      refine lv_aload_n hx hb dX13_move_34 rfl (lv_at hl 0 rfl) ?_
      refine va_get (D := D) (ci := 13) (v := .ref z1) (C := RX13) (T := TX13) (N := 20) hx hb hg inG13 hown hK hP 0 rfl rfl 1 (by decide) (hg _ wd_739) (fun _ h9 => h9) rfl dX13_move_35 ?_
      refine lv_iload_n hx hb dX13_move_38 rfl (lv_at hl 1 rfl) ?_
      obtain ⟨f16, hM16, hf16⟩ := hW.open_23 i1
      have hi_17 : vp_in k1 8 := (inbW (a := z2) (by omega) (inb k1 z2 (by omega) c_6 c_7))
      refine pg_aldq hx hb hK hP i1.1 9 hM16 rfl hi_17 dX13_move_39 ?_
      obtain ⟨b18, eb_19, hb_20⟩ := hf16 _ (vp_lt hi_17)
      rw [eb_19]
      refine lv_astore (lv' := [(6, .ref b18), (0, .ref za), (1, .int k1), (2, .int k2), (3, .int k3), (4, .int k4), (5, .int k5)]) hx hb dX13_move_40 hl (by decide) rfl (fun ls hl => ?_)
      refine lv_aload hx hb dX13_move_42 (lv_at hl 0 rfl) ?_
      refine lv_iload_n hx hb dX13_move_44 rfl (lv_at hl 4 rfl) ?_
      obtain ⟨fs21, hM21, hn21, hl21⟩ := hW.open_12 hb_20
      have hPc : va_P D vwCl ([] ++ va_pl L M) H_11 := hP.part (cx := []) [] rfl
      have hDc : va_D A ([] ++ va_pl L M) := hD.part (cx := []) [] (by decide) rfl
      have hFc : ∀ q, va_A ([] ++ va_pl L M) H_11.size q → A q := pg_free hDc hS hA
      refine va_calli (va_runV (As := [.int k3]) (rest := []) ⟨hx, hb, hml, hown, hg⟩ (r_X12_isFree l D cy K L M H_11.size b18 k3  hW hb_20) (cwV 1 hg (gV wd_807 wd_808 wd_809 wd_737 wd_810) rfl rfl rfl (by decide +kernel) ⟨(Nat.le_trans (Nat.le_of_ble_eq_true rfl) hRf), (Nat.le_trans (Nat.le_of_ble_eq_true rfl) hRl)⟩) ⟨PG.blind, pg_recv hK hP hb_20.1 hM21 rfl, fun U hU hW => ⟨rfl, PG.at hPc hK hDc hN hU hW⟩⟩ rfl rfl hl.1 rfl (lv_room (Nat.le_of_ble_eq_true rfl)) dX13_move_45 ⟨(Nat.le_trans (Nat.le_of_ble_eq_true rfl) hRc), (Nat.le_trans (Nat.le_of_ble_eq_true rfl) hRs)⟩) hS (fun q _ h => hFc q h) hFc (fun r_23 M_24 t H_22 locs ht hvm hw hB hz1 hk1 hS => ?_)
      have hp_25 := hw
      obtain ⟨hP1, hD1⟩ := hB
      rw [ht] at hP1
      obtain ⟨hP, hD⟩ := va_joinP (X := [(za, .inr (13, [.int 0, .ref z1, .int (nI z2), .int (nI z3), .int z4, .int z5, .ref z6, .ref z7, .ref z8, .ref z9, .int (nI z10), .ref z11, .ref z12, .ref z13, .ref z14, .ref z15, .int (nI z16), .ref z17, .int z18, .ref z19]))]) (cx := []) (wr := [(za, .inr (13, [.int 0, .ref z1, .int (nI z2), .int (nI z3), .int z4, .int z5, .ref z6, .ref z7, .ref z8, .ref z9, .int (nI z10), .ref z11, .ref z12, .ref z13, .ref z14, .ref z15, .int (nI z16), .ref z17, .int z18, .ref z19]))]) (rx := []) (pl := va_pl L M) (pl1 := va_pl L M) hP hD [] [0] rfl rfl (by decide) (by decide) hk1 hFc hP1 hD1
      have hP : va_P D vwCl ([(za, .inr (13, [.int 0, .ref z1, .int (nI z2), .int (nI z3), .int z4, .int z5, .ref z6, .ref z7, .ref z8, .ref z9, .int (nI z10), .ref z11, .ref z12, .ref z13, .ref z14, .ref z15, .int (nI z16), .ref z17, .int z18, .ref z19]))] ++ va_pl L M) H_22 := hP
      have hD : va_D A ([(za, .inr (13, [.int 0, .ref z1, .int (nI z2), .int (nI z3), .int z4, .int z5, .ref z6, .ref z7, .ref z8, .ref z9, .int (nI z10), .ref z11, .ref z12, .ref z13, .ref z14, .ref z15, .int (nI z16), .ref z17, .int z18, .ref z19]))] ++ va_pl L M) := hD
      rcases hp_25 with ⟨rfl, c_26, c_27⟩ | rfl
      · have hz := rfl (a := 0)
        refine lv_if_eq (tgt := 61) hx hb dX13_move_48 (by decide) (fun c_28 => absurd c_28 (by decide)) (fun _ => ?_)
        refine lv_aload hx hb dX13_move_51 (lv_at hl 0 rfl) ?_
        refine lv_iload_n hx hb dX13_move_53 rfl (lv_at hl 3 rfl) ?_
        refine lv_iload_n hx hb dX13_move_54 rfl (lv_at hl 4 rfl) ?_
        obtain ⟨j_29, hj_30, rfl⟩ := i32nat 24 (by decide) c_8 c_9
        have hPc : va_P D vwCl ([] ++ va_pl L M) H_22 := hP.part (cx := []) [] rfl
        have hDc : va_D A ([] ++ va_pl L M) := hD.part (cx := []) [] (by decide) rfl
        have hFc : ∀ q, va_A ([] ++ va_pl L M) H_22.size q → A q := pg_free hDc hS hA
        refine va_calli (va_runV (As := [.int (nI j_29), .int k3]) (rest := []) ⟨hx, hb, hml, hown, hg⟩ (r_X12_isIn l D cy K L M H_22.size b18 j_29 k3  hW hb_20 (by omega)) (cwV 2 hg (gV wd_748 wd_749 wd_750 wd_737 wd_751) rfl rfl rfl (by decide +kernel) ⟨(Nat.le_trans (Nat.le_of_ble_eq_true rfl) hRf), (Nat.le_trans (Nat.le_of_ble_eq_true rfl) hRl)⟩) ⟨PG.blind, pg_recv hK hP hb_20.1 hM21 rfl, fun U hU hW => ⟨rfl, PG.at hPc hK hDc hN hU hW⟩⟩ rfl rfl hl.1 rfl (lv_room (Nat.le_of_ble_eq_true rfl)) dX13_move_55 ⟨(Nat.le_trans (Nat.le_of_ble_eq_true rfl) hRc), (Nat.le_trans (Nat.le_of_ble_eq_true rfl) hRs)⟩) hS (fun q _ h => hFc q h) hFc (fun r_32 M_33 t H_31 locs ht hvm hw hB hz1 hk1 hS => ?_)
        have hp_34 := hw
        obtain ⟨hP1, hD1⟩ := hB
        rw [ht] at hP1
        obtain ⟨hP, hD⟩ := va_joinP (X := [(za, .inr (13, [.int 0, .ref z1, .int (nI z2), .int (nI z3), .int z4, .int z5, .ref z6, .ref z7, .ref z8, .ref z9, .int (nI z10), .ref z11, .ref z12, .ref z13, .ref z14, .ref z15, .int (nI z16), .ref z17, .int z18, .ref z19]))]) (cx := []) (wr := [(za, .inr (13, [.int 0, .ref z1, .int (nI z2), .int (nI z3), .int z4, .int z5, .ref z6, .ref z7, .ref z8, .ref z9, .int (nI z10), .ref z11, .ref z12, .ref z13, .ref z14, .ref z15, .int (nI z16), .ref z17, .int z18, .ref z19]))]) (rx := []) (pl := va_pl L M) (pl1 := va_pl L M) hP hD [] [0] rfl rfl (by decide) (by decide) hk1 hFc hP1 hD1
        have hP : va_P D vwCl ([(za, .inr (13, [.int 0, .ref z1, .int (nI z2), .int (nI z3), .int z4, .int z5, .ref z6, .ref z7, .ref z8, .ref z9, .int (nI z10), .ref z11, .ref z12, .ref z13, .ref z14, .ref z15, .int (nI z16), .ref z17, .int z18, .ref z19]))] ++ va_pl L M) H_31 := hP
        have hD : va_D A ([(za, .inr (13, [.int 0, .ref z1, .int (nI z2), .int (nI z3), .int z4, .int z5, .ref z6, .ref z7, .ref z8, .ref z9, .int (nI z10), .ref z11, .ref z12, .ref z13, .ref z14, .ref z15, .int (nI z16), .ref z17, .int z18, .ref z19]))] ++ va_pl L M) := hD
        rcases hp_34 with rfl | rfl
        · have hz := rfl (a := 0)
          refine lv_if_ne (tgt := 67) hx hb dX13_move_58 (by decide) (fun _ => ?_) (fun c_35 => absurd c_35 (by decide))
          refine lv_aload hx hb dX13_move_67 (lv_at hl 0 rfl) ?_
          obtain ⟨v36, hv36, hc36⟩ : ∃ v : Nat, fs21[14]? = some (.int (nI v) : Value) ∧ v ≤ 120 := hl21 14 (by decide)
          refine pg_getN (D := D) (ci := 12) (v := .int (nI v36)) (C := RX12) (T := TX12) (N := 51) hx hb hg inG12 hown hK hP hb_20.1 hM21 rfl 14 (by decide) (hN.use (Cond.fieldLinkNest RX13 193 RX12 "moves" "I" RX13) 23 rfl rfl) (fun _ h9 => h9) hv36 dX13_move_69 ?_
          refine lv_bipush (v := 120) hx hb dX13_move_72 (by decide) ?_
          refine lv_icmp_ne (tgt := 84) hx hb dX13_move_74 (by decide) (fun c_37 => ?_) (fun c_37 => ?_)
          · have hz := rfl (a := 0)
            have n_38 : ¬ (v36 = 120) := fun q => c_37 ((iEQ (a := v36) (b := 120) (by omega) (by omega)).mpr q)
            refine lv_aload hx hb dX13_move_84 (lv_at hl 0 rfl) ?_
            obtain ⟨v39, hv39, hc39⟩ : ∃ v : Nat, fs21[38]? = some (.ref v : Value) ∧ isk K L v 79 120 := hl21 38 (by decide)
            refine pg_getN (D := D) (ci := 12) (v := .ref v39) (C := RX12) (T := TX12) (N := 51) hx hb hg inG12 hown hK hP hb_20.1 hM21 rfl 38 (by decide) (hN.use (Cond.fieldLinkNest RX13 196 RX12 "moveOf" "[I" RX13) 47 rfl rfl) (fun _ h9 => h9) hv39 dX13_move_86 ?_
            refine lv_aload hx hb dX13_move_89 (lv_at hl 0 rfl) ?_
            refine pg_getN (D := D) (ci := 12) (v := .int (nI v36)) (C := RX12) (T := TX12) (N := 51) hx hb hg inG12 hown hK hP hb_20.1 hM21 rfl 14 (by decide) (hN.use (Cond.fieldLinkNest RX13 193 RX12 "moves" "I" RX13) 23 rfl rfl) (fun _ h9 => h9) hv36 dX13_move_91 ?_
            refine lv_iload_n hx hb dX13_move_94 rfl (lv_at hl 3 rfl) ?_
            obtain ⟨f40, hM40, hf40⟩ := hW.open_79 hc39
            refine pg_iast hx hb hK hP hD hS hc39.1 0 hM40 rfl (inbN v36 120 (by omega) (by omega)) dX13_move_95 (fun H_41 locs hP hD hS => ?_)
            obtain ⟨M_42, eM_42⟩ : ∃ M1 : Hp, M1 = va_up M v39 (.inl (cy 14, 120, .inl (upd f40 ((nI v36) : Int32).toNatClampNeg (nI j_29)))) := ⟨_, rfl⟩
            have hP : va_P D vwCl ([(za, .inr (13, [.int 0, .ref z1, .int (nI z2), .int (nI z3), .int z4, .int z5, .ref z6, .ref z7, .ref z8, .ref z9, .int (nI z10), .ref z11, .ref z12, .ref z13, .ref z14, .ref z15, .int (nI z16), .ref z17, .int z18, .ref z19]))] ++ va_pl L M_42) H_41 := by rw [eM_42]; exact hP
            have hD : va_D A ([(za, .inr (13, [.int 0, .ref z1, .int (nI z2), .int (nI z3), .int z4, .int z5, .ref z6, .ref z7, .ref z8, .ref z9, .int (nI z10), .ref z11, .ref z12, .ref z13, .ref z14, .ref z15, .int (nI z16), .ref z17, .int z18, .ref z19]))] ++ va_pl L M_42) := by rw [eM_42]; exact hD
            have hW : WOM cy K L M_42 := by rw [eM_42]; exact hW.up_79 hc39 ⟨_, rfl, (updP (P := fun z => ∃ c : Nat, c < 24 ∧ z = nI c) hf40 ⟨j_29, by omega, rfl⟩)⟩
            have hF : fr K L [12, 14, 32, 36, 79, 80, 81] M M_42 := by rw [eM_42]; exact hF.up hc39 (by decide)
            have hG : fG K L [14, 16] M M_42 := by rw [eM_42]; exact hG.arr hc39 (by decide)
            have hM_43 : M_42 v39 = .inl (cy 14, 120, .inl (upd f40 ((nI v36) : Int32).toNatClampNeg (nI j_29))) := by rw [eM_42]; exact va_up_self _ _ _
            have hM_44 : M_42 z1 = .inl (cy 23, 8, .inr (.inr (.inr (.inr (f16))))) := by rw [eM_42, va_up_ne _ _ (i1.neT hc39 (by decide))]; exact hM16
            have hM_45 : M_42 b18 = .inr (12, fs21) := by rw [eM_42, va_up_ne _ _ (hb_20.neT hc39 (by decide))]; exact hM21
            have hf_47 : ∀ j, j < 120 → ∃ c : Nat, c < 24 ∧ (upd f40 ((nI v36) : Int32).toNatClampNeg (nI j_29)) j = nI c := (updP (P := fun z => ∃ c : Nat, c < 24 ∧ z = nI c) hf40 ⟨j_29, by omega, rfl⟩)
            obtain ⟨f_46, ef_46⟩ : ∃ f : Nat → Int32, f = upd f40 ((nI v36) : Int32).toNatClampNeg (nI j_29) := ⟨_, rfl⟩
            rw [← ef_46] at hM_43 hf_47
            clear ef_46
            refine lv_aload hx hb dX13_move_96 (lv_at hl 0 rfl) ?_
            obtain ⟨v48, hv48, hc48⟩ : ∃ v : Nat, fs21[39]? = some (.ref v : Value) ∧ isk K L v 80 120 := hl21 39 (by decide)
            refine pg_getN (D := D) (ci := 12) (v := .ref v48) (C := RX12) (T := TX12) (N := 51) hx hb hg inG12 hown hK hP hb_20.1 hM_45 rfl 39 (by decide) (hN.use (Cond.fieldLinkNest RX13 199 RX12 "moveDay" "[I" RX13) 48 rfl rfl) (fun _ h9 => h9) hv48 dX13_move_98 ?_
            refine lv_aload hx hb dX13_move_101 (lv_at hl 0 rfl) ?_
            refine pg_getN (D := D) (ci := 12) (v := .int (nI v36)) (C := RX12) (T := TX12) (N := 51) hx hb hg inG12 hown hK hP hb_20.1 hM_45 rfl 14 (by decide) (hN.use (Cond.fieldLinkNest RX13 193 RX12 "moves" "I" RX13) 23 rfl rfl) (fun _ h9 => h9) hv36 dX13_move_103 ?_
            refine lv_iload_n hx hb dX13_move_106 rfl (lv_at hl 4 rfl) ?_
            obtain ⟨f49, hM49⟩ := hW.open_80 hc48
            refine pg_iast hx hb hK hP hD hS hc48.1 0 hM49 rfl (inbN v36 120 (by omega) (by omega)) dX13_move_107 (fun H_50 locs hP hD hS => ?_)
            obtain ⟨M_51, eM_51⟩ : ∃ M1 : Hp, M1 = va_up M_42 v48 (.inl (cy 14, 120, .inl (upd f49 ((nI v36) : Int32).toNatClampNeg k3))) := ⟨_, rfl⟩
            have hP : va_P D vwCl ([(za, .inr (13, [.int 0, .ref z1, .int (nI z2), .int (nI z3), .int z4, .int z5, .ref z6, .ref z7, .ref z8, .ref z9, .int (nI z10), .ref z11, .ref z12, .ref z13, .ref z14, .ref z15, .int (nI z16), .ref z17, .int z18, .ref z19]))] ++ va_pl L M_51) H_50 := by rw [eM_51]; exact hP
            have hD : va_D A ([(za, .inr (13, [.int 0, .ref z1, .int (nI z2), .int (nI z3), .int z4, .int z5, .ref z6, .ref z7, .ref z8, .ref z9, .int (nI z10), .ref z11, .ref z12, .ref z13, .ref z14, .ref z15, .int (nI z16), .ref z17, .int z18, .ref z19]))] ++ va_pl L M_51) := by rw [eM_51]; exact hD
            have hW : WOM cy K L M_51 := by rw [eM_51]; exact hW.up_80 hc48 ⟨_, rfl⟩
            have hF : fr K L [12, 14, 32, 36, 79, 80, 81] M M_51 := by rw [eM_51]; exact hF.up hc48 (by decide)
            have hG : fG K L [14, 16] M M_51 := by rw [eM_51]; exact hG.arr hc48 (by decide)
            have hM_52 : M_51 v48 = .inl (cy 14, 120, .inl (upd f49 ((nI v36) : Int32).toNatClampNeg k3)) := by rw [eM_51]; exact va_up_self _ _ _
            have hM_53 : M_51 v39 = .inl (cy 14, 120, .inl (f_46)) := by rw [eM_51, va_up_ne _ _ (hc39.neT hc48 (by decide))]; exact hM_43
            have hM_54 : M_51 z1 = .inl (cy 23, 8, .inr (.inr (.inr (.inr (f16))))) := by rw [eM_51, va_up_ne _ _ (i1.neT hc48 (by decide))]; exact hM_44
            have hM_55 : M_51 b18 = .inr (12, fs21) := by rw [eM_51, va_up_ne _ _ (hb_20.neT hc48 (by decide))]; exact hM_45
            obtain ⟨f_56, ef_56⟩ : ∃ f : Nat → Int32, f = upd f49 ((nI v36) : Int32).toNatClampNeg k3 := ⟨_, rfl⟩
            rw [← ef_56] at hM_52
            clear ef_56
            refine lv_aload hx hb dX13_move_108 (lv_at hl 0 rfl) ?_
            obtain ⟨v57, hv57, hc57⟩ : ∃ v : Nat, fs21[40]? = some (.ref v : Value) ∧ isk K L v 81 120 := hl21 40 (by decide)
            refine pg_getN (D := D) (ci := 12) (v := .ref v57) (C := RX12) (T := TX12) (N := 51) hx hb hg inG12 hown hK hP hb_20.1 hM_55 rfl 40 (by decide) (hN.use (Cond.fieldLinkNest RX13 202 RX12 "moveSum" "[I" RX13) 49 rfl rfl) (fun _ h9 => h9) hv57 dX13_move_110 ?_
            refine lv_aload hx hb dX13_move_113 (lv_at hl 0 rfl) ?_
            refine pg_getN (D := D) (ci := 12) (v := .int (nI v36)) (C := RX12) (T := TX12) (N := 51) hx hb hg inG12 hown hK hP hb_20.1 hM_55 rfl 14 (by decide) (hN.use (Cond.fieldLinkNest RX13 193 RX12 "moves" "I" RX13) 23 rfl rfl) (fun _ h9 => h9) hv36 dX13_move_115 ?_
            refine lv_iload hx hb dX13_move_118 (lv_at hl 6 rfl) ?_
            refine lv_if_eq (tgt := 129) hx hb dX13_move_120 (by decide) (fun c_58 => ?_) (fun c_58 => ?_)
            · have hz := rfl (a := 0)
              refine lv_iload hx hb dX13_move_129 (lv_at hl 5 rfl) ?_
              obtain ⟨f59, hM59⟩ := hW.open_81 hc57
              refine pg_iast hx hb hK hP hD hS hc57.1 0 hM59 rfl (inbN v36 120 (by omega) (by omega)) dX13_move_131 (fun H_60 locs hP hD hS => ?_)
              obtain ⟨M_61, eM_61⟩ : ∃ M1 : Hp, M1 = va_up M_51 v57 (.inl (cy 14, 120, .inl (upd f59 ((nI v36) : Int32).toNatClampNeg k4))) := ⟨_, rfl⟩
              have hP : va_P D vwCl ([(za, .inr (13, [.int 0, .ref z1, .int (nI z2), .int (nI z3), .int z4, .int z5, .ref z6, .ref z7, .ref z8, .ref z9, .int (nI z10), .ref z11, .ref z12, .ref z13, .ref z14, .ref z15, .int (nI z16), .ref z17, .int z18, .ref z19]))] ++ va_pl L M_61) H_60 := by rw [eM_61]; exact hP
              have hD : va_D A ([(za, .inr (13, [.int 0, .ref z1, .int (nI z2), .int (nI z3), .int z4, .int z5, .ref z6, .ref z7, .ref z8, .ref z9, .int (nI z10), .ref z11, .ref z12, .ref z13, .ref z14, .ref z15, .int (nI z16), .ref z17, .int z18, .ref z19]))] ++ va_pl L M_61) := by rw [eM_61]; exact hD
              have hW : WOM cy K L M_61 := by rw [eM_61]; exact hW.up_81 hc57 ⟨_, rfl⟩
              have hF : fr K L [12, 14, 32, 36, 79, 80, 81] M M_61 := by rw [eM_61]; exact hF.up hc57 (by decide)
              have hG : fG K L [14, 16] M M_61 := by rw [eM_61]; exact hG.arr hc57 (by decide)
              have hM_62 : M_61 v57 = .inl (cy 14, 120, .inl (upd f59 ((nI v36) : Int32).toNatClampNeg k4)) := by rw [eM_61]; exact va_up_self _ _ _
              have hM_63 : M_61 v48 = .inl (cy 14, 120, .inl (f_56)) := by rw [eM_61, va_up_ne _ _ (hc48.neT hc57 (by decide))]; exact hM_52
              have hM_64 : M_61 v39 = .inl (cy 14, 120, .inl (f_46)) := by rw [eM_61, va_up_ne _ _ (hc39.neT hc57 (by decide))]; exact hM_53
              have hM_65 : M_61 z1 = .inl (cy 23, 8, .inr (.inr (.inr (.inr (f16))))) := by rw [eM_61, va_up_ne _ _ (i1.neT hc57 (by decide))]; exact hM_54
              have hM_66 : M_61 b18 = .inr (12, fs21) := by rw [eM_61, va_up_ne _ _ (hb_20.neT hc57 (by decide))]; exact hM_55
              obtain ⟨f_67, ef_67⟩ : ∃ f : Nat → Int32, f = upd f59 ((nI v36) : Int32).toNatClampNeg k4 := ⟨_, rfl⟩
              rw [← ef_67] at hM_62
              clear ef_67
              refine lv_aload hx hb dX13_move_132 (lv_at hl 0 rfl) ?_
              refine lv_dup hx hb dX13_move_134 rfl ?_
              refine pg_getN (D := D) (ci := 12) (v := .int (nI v36)) (C := RX12) (T := TX12) (N := 51) hx hb hg inG12 hown hK hP hb_20.1 hM_66 rfl 14 (by decide) (hN.use (Cond.fieldLinkNest RX13 193 RX12 "moves" "I" RX13) 23 rfl rfl) (fun _ h9 => h9) hv36 dX13_move_135 ?_
              refine lv_iconst (v := 1) hx hb dX13_move_138 (by decide) ?_
              refine lv_iadd hx hb dX13_move_139 ?_
              refine lv_topi (fun f_68 ef_68 => ?_)
              obtain rfl : f_68 = (nI (v36 + 1)) := ef_68.trans (nI_add v36 1)
              refine pg_putN (D := D) (ci := 12) (v := .int (nI (v36 + 1))) (ty := .int) (C := RX12) (T := TX12) (N := 51) hx hb hg inG12 tyX12 tyX12_ok nmX12 hown hK hP hD hS hb_20.1 hM_66 rfl 14 (by decide) (hN.use (Cond.fieldLinkNest RX13 193 RX12 "moves" "I" RX13) 23 rfl rfl) (fun _ h9 => h9) rfl (by decide +kernel) rfl rfl (by rw [hn21]; decide) dX13_move_140 (fun H_69 locs hP hD hS => ?_)
              have hs_72 : (fs21.set 14 (.int (nI (v36 + 1))))[14]? = some (.int (nI (v36 + 1))) := List.getElem?_set_self (by rw [hn21]; decide)
              have hk_71 := fld12_set (k := 14) (w := .int (nI (v36 + 1))) hl21 (show fld12 K L 14 (fs21.set 14 (.int (nI (v36 + 1)))) from ⟨(v36 + 1), hs_72, by omega⟩)
              have hn_73 : (fs21.set 14 (.int (nI (v36 + 1)))).length = 51 := by rw [List.length_set]; exact hn21
              have hv_74 : (fs21.set 14 (.int (nI (v36 + 1))))[38]? = some (.ref v39) := by rw [List.getElem?_set_ne (by decide)]; exact hv39
              have hv_75 : (fs21.set 14 (.int (nI (v36 + 1))))[39]? = some (.ref v48) := by rw [List.getElem?_set_ne (by decide)]; exact hv48
              have hv_76 : (fs21.set 14 (.int (nI (v36 + 1))))[40]? = some (.ref v57) := by rw [List.getElem?_set_ne (by decide)]; exact hv57
              have hb_77 : (v36 + 1) ≤ 120 := by omega
              obtain ⟨M_78, eM_78⟩ : ∃ M1 : Hp, M1 = va_up M_61 b18 (.inr (12, fs21.set 14 (.int (nI (v36 + 1))))) := ⟨_, rfl⟩
              have hP : va_P D vwCl ([(za, .inr (13, [.int 0, .ref z1, .int (nI z2), .int (nI z3), .int z4, .int z5, .ref z6, .ref z7, .ref z8, .ref z9, .int (nI z10), .ref z11, .ref z12, .ref z13, .ref z14, .ref z15, .int (nI z16), .ref z17, .int z18, .ref z19]))] ++ va_pl L M_78) H_69 := by rw [eM_78]; exact hP
              have hD : va_D A ([(za, .inr (13, [.int 0, .ref z1, .int (nI z2), .int (nI z3), .int z4, .int z5, .ref z6, .ref z7, .ref z8, .ref z9, .int (nI z10), .ref z11, .ref z12, .ref z13, .ref z14, .ref z15, .int (nI z16), .ref z17, .int z18, .ref z19]))] ++ va_pl L M_78) := by rw [eM_78]; exact hD
              have hW : WOM cy K L M_78 := by rw [eM_78]; exact hW.up_12 hb_20 ⟨_, rfl, hn_73, hk_71⟩
              have hF : fr K L [12, 14, 32, 36, 79, 80, 81] M M_78 := by rw [eM_78]; exact hF.up hb_20 (by decide)
              have hG : fG K L [14, 16] M M_78 := by rw [eM_78]; exact hG.up hM_66 (by decide)
              have hM_79 : M_78 b18 = .inr (12, fs21.set 14 (.int (nI (v36 + 1)))) := by rw [eM_78]; exact va_up_self _ _ _
              have hM_80 : M_78 v57 = .inl (cy 14, 120, .inl (f_67)) := by rw [eM_78, va_up_ne _ _ (hc57.neT hb_20 (by decide))]; exact hM_62
              have hM_81 : M_78 v48 = .inl (cy 14, 120, .inl (f_56)) := by rw [eM_78, va_up_ne _ _ (hc48.neT hb_20 (by decide))]; exact hM_63
              have hM_82 : M_78 v39 = .inl (cy 14, 120, .inl (f_46)) := by rw [eM_78, va_up_ne _ _ (hc39.neT hb_20 (by decide))]; exact hM_64
              have hM_83 : M_78 z1 = .inl (cy 23, 8, .inr (.inr (.inr (.inr (f16))))) := by rw [eM_78, va_up_ne _ _ (i1.neT hb_20 (by decide))]; exact hM_65
              refine lv_aload hx hb dX13_move_143 (lv_at hl 0 rfl) ?_
              refine lv_iconst (v := (-1)) hx hb dX13_move_145 (by decide) ?_
              have hPc : va_P D vwCl ([] ++ va_pl L M_78) H_69 := hP.part (cx := []) [] rfl
              have hDc : va_D A ([] ++ va_pl L M_78) := hD.part (cx := []) [] (by decide) rfl
              have hFc : ∀ q, va_A ([] ++ va_pl L M_78) H_69.size q → A q := pg_free hDc hS hA
              refine va_callv (va_runV (As := [.int (-1)]) (rest := []) ⟨hx, hb, hml, hown, hg⟩ (r_rememberM l D cy K L M_78 H_69.size b18  hW hb_20) (cwV 1 hg (gV wd_827 wd_828 wd_829 wd_737 wd_830) rfl rfl rfl (by decide +kernel) ⟨(Nat.le_trans (Nat.le_of_ble_eq_true rfl) hRf), (Nat.le_trans (Nat.le_of_ble_eq_true rfl) hRl)⟩) ⟨PG.blind, pg_recv hK hP hb_20.1 hM_79 rfl, fun U hU hW => ⟨rfl, PG.at hPc hK hDc hN hU hW⟩⟩ rfl rfl hl.1 rfl (lv_room (Nat.le_of_ble_eq_true rfl)) dX13_move_146 ⟨(Nat.le_trans (Nat.le_of_ble_eq_true rfl) hRc), (Nat.le_trans (Nat.le_of_ble_eq_true rfl) hRs)⟩) hS (fun q _ h => hFc q h) hFc (fun M_86 t H_84 locs ht hvm hw hB hz1 hk1 hS => ?_)
              have hWb := hW
              obtain ⟨hW, hF2, hG2, hp_87⟩ := hw
              obtain ⟨hP1, hD1⟩ := hB
              rw [ht] at hP1
              obtain ⟨hP, hD⟩ := va_joinP (X := [(za, .inr (13, [.int 0, .ref z1, .int (nI z2), .int (nI z3), .int z4, .int z5, .ref z6, .ref z7, .ref z8, .ref z9, .int (nI z10), .ref z11, .ref z12, .ref z13, .ref z14, .ref z15, .int (nI z16), .ref z17, .int z18, .ref z19]))]) (cx := []) (wr := [(za, .inr (13, [.int 0, .ref z1, .int (nI z2), .int (nI z3), .int z4, .int z5, .ref z6, .ref z7, .ref z8, .ref z9, .int (nI z10), .ref z11, .ref z12, .ref z13, .ref z14, .ref z15, .int (nI z16), .ref z17, .int z18, .ref z19]))]) (rx := []) (pl := va_pl L M_78) (pl1 := va_pl L M_86) hP hD [] [0] rfl rfl (by decide) (by decide) hk1 hFc hP1 hD1
              have hP : va_P D vwCl ([(za, .inr (13, [.int 0, .ref z1, .int (nI z2), .int (nI z3), .int z4, .int z5, .ref z6, .ref z7, .ref z8, .ref z9, .int (nI z10), .ref z11, .ref z12, .ref z13, .ref z14, .ref z15, .int (nI z16), .ref z17, .int z18, .ref z19]))] ++ va_pl L M_86) H_84 := hP
              have hD : va_D A ([(za, .inr (13, [.int 0, .ref z1, .int (nI z2), .int (nI z3), .int z4, .int z5, .ref z6, .ref z7, .ref z8, .ref z9, .int (nI z10), .ref z11, .ref z12, .ref z13, .ref z14, .ref z15, .int (nI z16), .ref z17, .int z18, .ref z19]))] ++ va_pl L M_86) := hD
              have hM_88 : M_86 v57 = .inl (cy 14, 120, .inl (f_67)) := (hF2.at hc57 (by decide)).trans hM_80
              have hM_89 : M_86 v48 = .inl (cy 14, 120, .inl (f_56)) := (hF2.at hc48 (by decide)).trans hM_81
              have hM_90 : M_86 v39 = .inl (cy 14, 120, .inl (f_46)) := (hF2.at hc39 (by decide)).trans hM_82
              have hM_91 : M_86 z1 = .inl (cy 23, 8, .inr (.inr (.inr (.inr (f16))))) := (hF2.at i1 (by decide)).trans hM_83
              have hF : fr K L [12, 14, 32, 36, 79, 80, 81] M M_86 := hF.tr hF2 (by decide)
              have hG : fG K L [14, 16] M M_86 := hG.tr hWb hG2 (by decide)
              refine lv_aload_n hx hb dX13_move_149 rfl (lv_at hl 1 rfl) ?_
              refine lv_aload hx hb dX13_move_150 (lv_at hl 0 rfl) ?_
              obtain ⟨fs92, hM92, hn92, hl92⟩ := hW.open_12 hb_20
              obtain ⟨v93, hv93, hc93⟩ : ∃ v : Nat, fs92[14]? = some (.int (nI v) : Value) ∧ v ≤ 120 := hl92 14 (by decide)
              refine pg_getN (D := D) (ci := 12) (v := .int (nI v93)) (C := RX12) (T := TX12) (N := 51) hx hb hg inG12 hown hK hP hb_20.1 hM92 rfl 14 (by decide) (hN.use (Cond.fieldLinkNest RX13 193 RX12 "moves" "I" RX13) 23 rfl rfl) (fun _ h9 => h9) hv93 dX13_move_152 ?_
              have hPc := hP.sub (ws' := [(za, .inr (13, [.int 0, .ref z1, .int (nI z2), .int (nI z3), .int z4, .int z5, .ref z6, .ref z7, .ref z8, .ref z9, .int (nI z10), .ref z11, .ref z12, .ref z13, .ref z14, .ref z15, .int (nI z16), .ref z17, .int z18, .ref z19]))]) [0] rfl
              have hDc := hD.sub (ws' := [(za, .inr (13, [.int 0, .ref z1, .int (nI z2), .int (nI z3), .int z4, .int z5, .ref z6, .ref z7, .ref z8, .ref z9, .int (nI z10), .ref z11, .ref z12, .ref z13, .ref z14, .ref z15, .int (nI z16), .ref z17, .int z18, .ref z19]))]) [0] (by decide) rfl
              have hKc := hK.sub (tys' := []) [] rfl
              have hFc := va_free (wc := [(za, .inr (13, [.int 0, .ref z1, .int (nI z2), .int (nI z3), .int z4, .int z5, .ref z6, .ref z7, .ref z8, .ref z9, .int (nI z10), .ref z11, .ref z12, .ref z13, .ref z14, .ref z15, .int (nI z16), .ref z17, .int z18, .ref z19]))]) hD hS hA [0] rfl
              refine va_calli (va_runV (As := [.int (nI v93)]) (rest := []) ⟨hx, hb, hml, hown, hg⟩ (m_done l D H_84.size za 0 z1 (nI z2) (nI z3) z4 z5 z6 z7 z8 z9 (nI z10) z11 z12 z13 z14 z15 (nI z16) z17 z18 z19 (nI v93)) (cwV 1 hg (gV wd_730 wd_731 wd_732 wd_717 wd_733) rfl rfl rfl (by decide +kernel) ⟨(Nat.le_trans (Nat.le_of_ble_eq_true rfl) hRf), (Nat.le_trans (Nat.le_of_ble_eq_true rfl) hRl)⟩) ⟨Pr.blind, va_recv hK hP (ci := 13) (q0 := 0) rfl rfl, fun U hU hW => ⟨rfl, Pr.at hPc hKc hDc hN hU hW⟩⟩ rfl rfl hl.1 rfl (lv_room (Nat.le_of_ble_eq_true rfl)) dX13_move_155 ⟨(Nat.le_trans (Nat.le_of_ble_eq_true rfl) hRc), (Nat.le_trans (Nat.le_of_ble_eq_true rfl) hRs)⟩) hS (fun q _ h => hFc q h) hFc (fun r_95 M_96 t H_94 locs ht hvm hw hB hz1 hk1 hS => ?_)
              have hp_97 := hw
              obtain ⟨hP1, hK1, hD1⟩ := hB
              rw [ht] at hP1
              obtain ⟨hP, hD⟩ := va_joinQ (X := [(za, .inr (13, [.int 0, .ref z1, .int (nI z2), .int (nI z3), .int z4, .int z5, .ref z6, .ref z7, .ref z8, .ref z9, .int (nI z10), .ref z11, .ref z12, .ref z13, .ref z14, .ref z15, .int (nI z16), .ref z17, .int z18, .ref z19]))]) (cx := [(za, .inr (13, [.int 0, .ref z1, .int (nI z2), .int (nI z3), .int z4, .int z5, .ref z6, .ref z7, .ref z8, .ref z9, .int (nI z10), .ref z11, .ref z12, .ref z13, .ref z14, .ref z15, .int (nI z16), .ref z17, .int z18, .ref z19]))]) (wr := []) (w1 := [(za, .inr (13, [.int 0, .ref z1, .int (nI z2), .int (nI z3), .int 0, .int (-1), .ref z6, .ref z7, .ref z8, .ref z9, .int (nI z10), .ref z11, .ref z12, .ref z13, .ref z14, .ref z15, .int (nI z16), .ref z17, .int z18, .ref z19]))]) (pl := va_pl L M_86) hP hD [0] [] rfl rfl (by decide) (by decide) hk1 hFc hP1 hD1
              have hP : va_P D vwCl ([(za, .inr (13, [.int 0, .ref z1, .int (nI z2), .int (nI z3), .int 0, .int (-1), .ref z6, .ref z7, .ref z8, .ref z9, .int (nI z10), .ref z11, .ref z12, .ref z13, .ref z14, .ref z15, .int (nI z16), .ref z17, .int z18, .ref z19]))] ++ va_pl L M_86) H_94 := hP
              have hD : va_D A ([(za, .inr (13, [.int 0, .ref z1, .int (nI z2), .int (nI z3), .int 0, .int (-1), .ref z6, .ref z7, .ref z8, .ref z9, .int (nI z10), .ref z11, .ref z12, .ref z13, .ref z14, .ref z15, .int (nI z16), .ref z17, .int z18, .ref z19]))] ++ va_pl L M_86) := hD
              have hq := Eq.symm hp_97
              subst hq
              rw [hQ]
              exact W.iret (v := (nI v93)) hx hb hr (fun t ht hW9 => ⟨⟨(nI v93), M_86, rfl, ⟨hW, hF, hG, trivial⟩, ⟨0, (-1), by rw [ht]; exact hP, hD⟩⟩, hS.F ht⟩) hS.2.2 dX13_move_158
            · have hz := rfl (a := 0)
              refine lv_iload hx hb dX13_move_123 (lv_at hl 5 rfl) ?_
              refine lv_ineg hx hb dX13_move_125 ?_
              refine lv_topi (fun f_98 ef_98 => ?_)
              refine lv_goto (tgt := 131) hx hb dX13_move_126 (by decide) ?_
              obtain ⟨f99, hM99⟩ := hW.open_81 hc57
              refine pg_iast hx hb hK hP hD hS hc57.1 0 hM99 rfl (inbN v36 120 (by omega) (by omega)) dX13_move_131 (fun H_100 locs hP hD hS => ?_)
              obtain ⟨M_101, eM_101⟩ : ∃ M1 : Hp, M1 = va_up M_51 v57 (.inl (cy 14, 120, .inl (upd f99 ((nI v36) : Int32).toNatClampNeg f_98))) := ⟨_, rfl⟩
              have hP : va_P D vwCl ([(za, .inr (13, [.int 0, .ref z1, .int (nI z2), .int (nI z3), .int z4, .int z5, .ref z6, .ref z7, .ref z8, .ref z9, .int (nI z10), .ref z11, .ref z12, .ref z13, .ref z14, .ref z15, .int (nI z16), .ref z17, .int z18, .ref z19]))] ++ va_pl L M_101) H_100 := by rw [eM_101]; exact hP
              have hD : va_D A ([(za, .inr (13, [.int 0, .ref z1, .int (nI z2), .int (nI z3), .int z4, .int z5, .ref z6, .ref z7, .ref z8, .ref z9, .int (nI z10), .ref z11, .ref z12, .ref z13, .ref z14, .ref z15, .int (nI z16), .ref z17, .int z18, .ref z19]))] ++ va_pl L M_101) := by rw [eM_101]; exact hD
              have hW : WOM cy K L M_101 := by rw [eM_101]; exact hW.up_81 hc57 ⟨_, rfl⟩
              have hF : fr K L [12, 14, 32, 36, 79, 80, 81] M M_101 := by rw [eM_101]; exact hF.up hc57 (by decide)
              have hG : fG K L [14, 16] M M_101 := by rw [eM_101]; exact hG.arr hc57 (by decide)
              have hM_102 : M_101 v57 = .inl (cy 14, 120, .inl (upd f99 ((nI v36) : Int32).toNatClampNeg f_98)) := by rw [eM_101]; exact va_up_self _ _ _
              have hM_103 : M_101 v48 = .inl (cy 14, 120, .inl (f_56)) := by rw [eM_101, va_up_ne _ _ (hc48.neT hc57 (by decide))]; exact hM_52
              have hM_104 : M_101 v39 = .inl (cy 14, 120, .inl (f_46)) := by rw [eM_101, va_up_ne _ _ (hc39.neT hc57 (by decide))]; exact hM_53
              have hM_105 : M_101 z1 = .inl (cy 23, 8, .inr (.inr (.inr (.inr (f16))))) := by rw [eM_101, va_up_ne _ _ (i1.neT hc57 (by decide))]; exact hM_54
              have hM_106 : M_101 b18 = .inr (12, fs21) := by rw [eM_101, va_up_ne _ _ (hb_20.neT hc57 (by decide))]; exact hM_55
              obtain ⟨f_107, ef_107⟩ : ∃ f : Nat → Int32, f = upd f99 ((nI v36) : Int32).toNatClampNeg f_98 := ⟨_, rfl⟩
              rw [← ef_107] at hM_102
              clear ef_107
              refine lv_aload hx hb dX13_move_132 (lv_at hl 0 rfl) ?_
              refine lv_dup hx hb dX13_move_134 rfl ?_
              refine pg_getN (D := D) (ci := 12) (v := .int (nI v36)) (C := RX12) (T := TX12) (N := 51) hx hb hg inG12 hown hK hP hb_20.1 hM_106 rfl 14 (by decide) (hN.use (Cond.fieldLinkNest RX13 193 RX12 "moves" "I" RX13) 23 rfl rfl) (fun _ h9 => h9) hv36 dX13_move_135 ?_
              refine lv_iconst (v := 1) hx hb dX13_move_138 (by decide) ?_
              refine lv_iadd hx hb dX13_move_139 ?_
              refine lv_topi (fun f_108 ef_108 => ?_)
              obtain rfl : f_108 = (nI (v36 + 1)) := ef_108.trans (nI_add v36 1)
              refine pg_putN (D := D) (ci := 12) (v := .int (nI (v36 + 1))) (ty := .int) (C := RX12) (T := TX12) (N := 51) hx hb hg inG12 tyX12 tyX12_ok nmX12 hown hK hP hD hS hb_20.1 hM_106 rfl 14 (by decide) (hN.use (Cond.fieldLinkNest RX13 193 RX12 "moves" "I" RX13) 23 rfl rfl) (fun _ h9 => h9) rfl (by decide +kernel) rfl rfl (by rw [hn21]; decide) dX13_move_140 (fun H_109 locs hP hD hS => ?_)
              have hs_112 : (fs21.set 14 (.int (nI (v36 + 1))))[14]? = some (.int (nI (v36 + 1))) := List.getElem?_set_self (by rw [hn21]; decide)
              have hk_111 := fld12_set (k := 14) (w := .int (nI (v36 + 1))) hl21 (show fld12 K L 14 (fs21.set 14 (.int (nI (v36 + 1)))) from ⟨(v36 + 1), hs_112, by omega⟩)
              have hn_113 : (fs21.set 14 (.int (nI (v36 + 1)))).length = 51 := by rw [List.length_set]; exact hn21
              have hv_114 : (fs21.set 14 (.int (nI (v36 + 1))))[38]? = some (.ref v39) := by rw [List.getElem?_set_ne (by decide)]; exact hv39
              have hv_115 : (fs21.set 14 (.int (nI (v36 + 1))))[39]? = some (.ref v48) := by rw [List.getElem?_set_ne (by decide)]; exact hv48
              have hv_116 : (fs21.set 14 (.int (nI (v36 + 1))))[40]? = some (.ref v57) := by rw [List.getElem?_set_ne (by decide)]; exact hv57
              have hb_117 : (v36 + 1) ≤ 120 := by omega
              obtain ⟨M_118, eM_118⟩ : ∃ M1 : Hp, M1 = va_up M_101 b18 (.inr (12, fs21.set 14 (.int (nI (v36 + 1))))) := ⟨_, rfl⟩
              have hP : va_P D vwCl ([(za, .inr (13, [.int 0, .ref z1, .int (nI z2), .int (nI z3), .int z4, .int z5, .ref z6, .ref z7, .ref z8, .ref z9, .int (nI z10), .ref z11, .ref z12, .ref z13, .ref z14, .ref z15, .int (nI z16), .ref z17, .int z18, .ref z19]))] ++ va_pl L M_118) H_109 := by rw [eM_118]; exact hP
              have hD : va_D A ([(za, .inr (13, [.int 0, .ref z1, .int (nI z2), .int (nI z3), .int z4, .int z5, .ref z6, .ref z7, .ref z8, .ref z9, .int (nI z10), .ref z11, .ref z12, .ref z13, .ref z14, .ref z15, .int (nI z16), .ref z17, .int z18, .ref z19]))] ++ va_pl L M_118) := by rw [eM_118]; exact hD
              have hW : WOM cy K L M_118 := by rw [eM_118]; exact hW.up_12 hb_20 ⟨_, rfl, hn_113, hk_111⟩
              have hF : fr K L [12, 14, 32, 36, 79, 80, 81] M M_118 := by rw [eM_118]; exact hF.up hb_20 (by decide)
              have hG : fG K L [14, 16] M M_118 := by rw [eM_118]; exact hG.up hM_106 (by decide)
              have hM_119 : M_118 b18 = .inr (12, fs21.set 14 (.int (nI (v36 + 1)))) := by rw [eM_118]; exact va_up_self _ _ _
              have hM_120 : M_118 v57 = .inl (cy 14, 120, .inl (f_107)) := by rw [eM_118, va_up_ne _ _ (hc57.neT hb_20 (by decide))]; exact hM_102
              have hM_121 : M_118 v48 = .inl (cy 14, 120, .inl (f_56)) := by rw [eM_118, va_up_ne _ _ (hc48.neT hb_20 (by decide))]; exact hM_103
              have hM_122 : M_118 v39 = .inl (cy 14, 120, .inl (f_46)) := by rw [eM_118, va_up_ne _ _ (hc39.neT hb_20 (by decide))]; exact hM_104
              have hM_123 : M_118 z1 = .inl (cy 23, 8, .inr (.inr (.inr (.inr (f16))))) := by rw [eM_118, va_up_ne _ _ (i1.neT hb_20 (by decide))]; exact hM_105
              refine lv_aload hx hb dX13_move_143 (lv_at hl 0 rfl) ?_
              refine lv_iconst (v := (-1)) hx hb dX13_move_145 (by decide) ?_
              have hPc : va_P D vwCl ([] ++ va_pl L M_118) H_109 := hP.part (cx := []) [] rfl
              have hDc : va_D A ([] ++ va_pl L M_118) := hD.part (cx := []) [] (by decide) rfl
              have hFc : ∀ q, va_A ([] ++ va_pl L M_118) H_109.size q → A q := pg_free hDc hS hA
              refine va_callv (va_runV (As := [.int (-1)]) (rest := []) ⟨hx, hb, hml, hown, hg⟩ (r_rememberM l D cy K L M_118 H_109.size b18  hW hb_20) (cwV 1 hg (gV wd_827 wd_828 wd_829 wd_737 wd_830) rfl rfl rfl (by decide +kernel) ⟨(Nat.le_trans (Nat.le_of_ble_eq_true rfl) hRf), (Nat.le_trans (Nat.le_of_ble_eq_true rfl) hRl)⟩) ⟨PG.blind, pg_recv hK hP hb_20.1 hM_119 rfl, fun U hU hW => ⟨rfl, PG.at hPc hK hDc hN hU hW⟩⟩ rfl rfl hl.1 rfl (lv_room (Nat.le_of_ble_eq_true rfl)) dX13_move_146 ⟨(Nat.le_trans (Nat.le_of_ble_eq_true rfl) hRc), (Nat.le_trans (Nat.le_of_ble_eq_true rfl) hRs)⟩) hS (fun q _ h => hFc q h) hFc (fun M_126 t H_124 locs ht hvm hw hB hz1 hk1 hS => ?_)
              have hWb := hW
              obtain ⟨hW, hF2, hG2, hp_127⟩ := hw
              obtain ⟨hP1, hD1⟩ := hB
              rw [ht] at hP1
              obtain ⟨hP, hD⟩ := va_joinP (X := [(za, .inr (13, [.int 0, .ref z1, .int (nI z2), .int (nI z3), .int z4, .int z5, .ref z6, .ref z7, .ref z8, .ref z9, .int (nI z10), .ref z11, .ref z12, .ref z13, .ref z14, .ref z15, .int (nI z16), .ref z17, .int z18, .ref z19]))]) (cx := []) (wr := [(za, .inr (13, [.int 0, .ref z1, .int (nI z2), .int (nI z3), .int z4, .int z5, .ref z6, .ref z7, .ref z8, .ref z9, .int (nI z10), .ref z11, .ref z12, .ref z13, .ref z14, .ref z15, .int (nI z16), .ref z17, .int z18, .ref z19]))]) (rx := []) (pl := va_pl L M_118) (pl1 := va_pl L M_126) hP hD [] [0] rfl rfl (by decide) (by decide) hk1 hFc hP1 hD1
              have hP : va_P D vwCl ([(za, .inr (13, [.int 0, .ref z1, .int (nI z2), .int (nI z3), .int z4, .int z5, .ref z6, .ref z7, .ref z8, .ref z9, .int (nI z10), .ref z11, .ref z12, .ref z13, .ref z14, .ref z15, .int (nI z16), .ref z17, .int z18, .ref z19]))] ++ va_pl L M_126) H_124 := hP
              have hD : va_D A ([(za, .inr (13, [.int 0, .ref z1, .int (nI z2), .int (nI z3), .int z4, .int z5, .ref z6, .ref z7, .ref z8, .ref z9, .int (nI z10), .ref z11, .ref z12, .ref z13, .ref z14, .ref z15, .int (nI z16), .ref z17, .int z18, .ref z19]))] ++ va_pl L M_126) := hD
              have hM_128 : M_126 v57 = .inl (cy 14, 120, .inl (f_107)) := (hF2.at hc57 (by decide)).trans hM_120
              have hM_129 : M_126 v48 = .inl (cy 14, 120, .inl (f_56)) := (hF2.at hc48 (by decide)).trans hM_121
              have hM_130 : M_126 v39 = .inl (cy 14, 120, .inl (f_46)) := (hF2.at hc39 (by decide)).trans hM_122
              have hM_131 : M_126 z1 = .inl (cy 23, 8, .inr (.inr (.inr (.inr (f16))))) := (hF2.at i1 (by decide)).trans hM_123
              have hF : fr K L [12, 14, 32, 36, 79, 80, 81] M M_126 := hF.tr hF2 (by decide)
              have hG : fG K L [14, 16] M M_126 := hG.tr hWb hG2 (by decide)
              refine lv_aload_n hx hb dX13_move_149 rfl (lv_at hl 1 rfl) ?_
              refine lv_aload hx hb dX13_move_150 (lv_at hl 0 rfl) ?_
              obtain ⟨fs132, hM132, hn132, hl132⟩ := hW.open_12 hb_20
              obtain ⟨v133, hv133, hc133⟩ : ∃ v : Nat, fs132[14]? = some (.int (nI v) : Value) ∧ v ≤ 120 := hl132 14 (by decide)
              refine pg_getN (D := D) (ci := 12) (v := .int (nI v133)) (C := RX12) (T := TX12) (N := 51) hx hb hg inG12 hown hK hP hb_20.1 hM132 rfl 14 (by decide) (hN.use (Cond.fieldLinkNest RX13 193 RX12 "moves" "I" RX13) 23 rfl rfl) (fun _ h9 => h9) hv133 dX13_move_152 ?_
              have hPc := hP.sub (ws' := [(za, .inr (13, [.int 0, .ref z1, .int (nI z2), .int (nI z3), .int z4, .int z5, .ref z6, .ref z7, .ref z8, .ref z9, .int (nI z10), .ref z11, .ref z12, .ref z13, .ref z14, .ref z15, .int (nI z16), .ref z17, .int z18, .ref z19]))]) [0] rfl
              have hDc := hD.sub (ws' := [(za, .inr (13, [.int 0, .ref z1, .int (nI z2), .int (nI z3), .int z4, .int z5, .ref z6, .ref z7, .ref z8, .ref z9, .int (nI z10), .ref z11, .ref z12, .ref z13, .ref z14, .ref z15, .int (nI z16), .ref z17, .int z18, .ref z19]))]) [0] (by decide) rfl
              have hKc := hK.sub (tys' := []) [] rfl
              have hFc := va_free (wc := [(za, .inr (13, [.int 0, .ref z1, .int (nI z2), .int (nI z3), .int z4, .int z5, .ref z6, .ref z7, .ref z8, .ref z9, .int (nI z10), .ref z11, .ref z12, .ref z13, .ref z14, .ref z15, .int (nI z16), .ref z17, .int z18, .ref z19]))]) hD hS hA [0] rfl
              refine va_calli (va_runV (As := [.int (nI v133)]) (rest := []) ⟨hx, hb, hml, hown, hg⟩ (m_done l D H_124.size za 0 z1 (nI z2) (nI z3) z4 z5 z6 z7 z8 z9 (nI z10) z11 z12 z13 z14 z15 (nI z16) z17 z18 z19 (nI v133)) (cwV 1 hg (gV wd_730 wd_731 wd_732 wd_717 wd_733) rfl rfl rfl (by decide +kernel) ⟨(Nat.le_trans (Nat.le_of_ble_eq_true rfl) hRf), (Nat.le_trans (Nat.le_of_ble_eq_true rfl) hRl)⟩) ⟨Pr.blind, va_recv hK hP (ci := 13) (q0 := 0) rfl rfl, fun U hU hW => ⟨rfl, Pr.at hPc hKc hDc hN hU hW⟩⟩ rfl rfl hl.1 rfl (lv_room (Nat.le_of_ble_eq_true rfl)) dX13_move_155 ⟨(Nat.le_trans (Nat.le_of_ble_eq_true rfl) hRc), (Nat.le_trans (Nat.le_of_ble_eq_true rfl) hRs)⟩) hS (fun q _ h => hFc q h) hFc (fun r_135 M_136 t H_134 locs ht hvm hw hB hz1 hk1 hS => ?_)
              have hp_137 := hw
              obtain ⟨hP1, hK1, hD1⟩ := hB
              rw [ht] at hP1
              obtain ⟨hP, hD⟩ := va_joinQ (X := [(za, .inr (13, [.int 0, .ref z1, .int (nI z2), .int (nI z3), .int z4, .int z5, .ref z6, .ref z7, .ref z8, .ref z9, .int (nI z10), .ref z11, .ref z12, .ref z13, .ref z14, .ref z15, .int (nI z16), .ref z17, .int z18, .ref z19]))]) (cx := [(za, .inr (13, [.int 0, .ref z1, .int (nI z2), .int (nI z3), .int z4, .int z5, .ref z6, .ref z7, .ref z8, .ref z9, .int (nI z10), .ref z11, .ref z12, .ref z13, .ref z14, .ref z15, .int (nI z16), .ref z17, .int z18, .ref z19]))]) (wr := []) (w1 := [(za, .inr (13, [.int 0, .ref z1, .int (nI z2), .int (nI z3), .int 0, .int (-1), .ref z6, .ref z7, .ref z8, .ref z9, .int (nI z10), .ref z11, .ref z12, .ref z13, .ref z14, .ref z15, .int (nI z16), .ref z17, .int z18, .ref z19]))]) (pl := va_pl L M_126) hP hD [0] [] rfl rfl (by decide) (by decide) hk1 hFc hP1 hD1
              have hP : va_P D vwCl ([(za, .inr (13, [.int 0, .ref z1, .int (nI z2), .int (nI z3), .int 0, .int (-1), .ref z6, .ref z7, .ref z8, .ref z9, .int (nI z10), .ref z11, .ref z12, .ref z13, .ref z14, .ref z15, .int (nI z16), .ref z17, .int z18, .ref z19]))] ++ va_pl L M_126) H_134 := hP
              have hD : va_D A ([(za, .inr (13, [.int 0, .ref z1, .int (nI z2), .int (nI z3), .int 0, .int (-1), .ref z6, .ref z7, .ref z8, .ref z9, .int (nI z10), .ref z11, .ref z12, .ref z13, .ref z14, .ref z15, .int (nI z16), .ref z17, .int z18, .ref z19]))] ++ va_pl L M_126) := hD
              have hq := Eq.symm hp_137
              subst hq
              rw [hQ]
              exact W.iret (v := (nI v133)) hx hb hr (fun t ht hW9 => ⟨⟨(nI v133), M_126, rfl, ⟨hW, hF, hG, trivial⟩, ⟨0, (-1), by rw [ht]; exact hP, hD⟩⟩, hS.F ht⟩) hS.2.2 dX13_move_158
          · have hz := rfl (a := 0)
            have n_138 : v36 = 120 := (iEQ (a := v36) (b := 120) (by omega) (by omega)).mp c_37
            refine lv_aload_n hx hb dX13_move_77 rfl (lv_at hl 1 rfl) ?_
            refine lv_bipush (v := 9) hx hb dX13_move_78 (by decide) ?_
            have hPc := hP.sub (ws' := [(za, .inr (13, [.int 0, .ref z1, .int (nI z2), .int (nI z3), .int z4, .int z5, .ref z6, .ref z7, .ref z8, .ref z9, .int (nI z10), .ref z11, .ref z12, .ref z13, .ref z14, .ref z15, .int (nI z16), .ref z17, .int z18, .ref z19]))]) [0] rfl
            have hDc := hD.sub (ws' := [(za, .inr (13, [.int 0, .ref z1, .int (nI z2), .int (nI z3), .int z4, .int z5, .ref z6, .ref z7, .ref z8, .ref z9, .int (nI z10), .ref z11, .ref z12, .ref z13, .ref z14, .ref z15, .int (nI z16), .ref z17, .int z18, .ref z19]))]) [0] (by decide) rfl
            have hKc := hK.sub (tys' := []) [] rfl
            have hFc := va_free (wc := [(za, .inr (13, [.int 0, .ref z1, .int (nI z2), .int (nI z3), .int z4, .int z5, .ref z6, .ref z7, .ref z8, .ref z9, .int (nI z10), .ref z11, .ref z12, .ref z13, .ref z14, .ref z15, .int (nI z16), .ref z17, .int z18, .ref z19]))]) hD hS hA [0] rfl
            refine va_calli (va_runV (As := [.int 9]) (rest := []) ⟨hx, hb, hml, hown, hg⟩ (m_refused l D H_31.size za 0 z1 (nI z2) (nI z3) z4 z5 z6 z7 z8 z9 (nI z10) z11 z12 z13 z14 z15 (nI z16) z17 z18 z19 9) (cwV 1 hg (gV wd_725 wd_726 wd_727 wd_717 wd_728) rfl rfl rfl (by decide +kernel) ⟨(Nat.le_trans (Nat.le_of_ble_eq_true rfl) hRf), (Nat.le_trans (Nat.le_of_ble_eq_true rfl) hRl)⟩) ⟨Pr.blind, va_recv hK hP (ci := 13) (q0 := 0) rfl rfl, fun U hU hW => ⟨rfl, Pr.at hPc hKc hDc hN hU hW⟩⟩ rfl rfl hl.1 rfl (lv_room (Nat.le_of_ble_eq_true rfl)) dX13_move_80 ⟨(Nat.le_trans (Nat.le_of_ble_eq_true rfl) hRc), (Nat.le_trans (Nat.le_of_ble_eq_true rfl) hRs)⟩) hS (fun q _ h => hFc q h) hFc (fun r_140 M_141 t H_139 locs ht hvm hw hB hz1 hk1 hS => ?_)
            have hp_142 := hw
            obtain ⟨hP1, hK1, hD1⟩ := hB
            rw [ht] at hP1
            obtain ⟨hP, hD⟩ := va_joinQ (X := [(za, .inr (13, [.int 0, .ref z1, .int (nI z2), .int (nI z3), .int z4, .int z5, .ref z6, .ref z7, .ref z8, .ref z9, .int (nI z10), .ref z11, .ref z12, .ref z13, .ref z14, .ref z15, .int (nI z16), .ref z17, .int z18, .ref z19]))]) (cx := [(za, .inr (13, [.int 0, .ref z1, .int (nI z2), .int (nI z3), .int z4, .int z5, .ref z6, .ref z7, .ref z8, .ref z9, .int (nI z10), .ref z11, .ref z12, .ref z13, .ref z14, .ref z15, .int (nI z16), .ref z17, .int z18, .ref z19]))]) (wr := []) (w1 := [(za, .inr (13, [.int 0, .ref z1, .int (nI z2), .int (nI z3), .int 9, .int (-1), .ref z6, .ref z7, .ref z8, .ref z9, .int (nI z10), .ref z11, .ref z12, .ref z13, .ref z14, .ref z15, .int (nI z16), .ref z17, .int z18, .ref z19]))]) (pl := va_pl L M) hP hD [0] [] rfl rfl (by decide) (by decide) hk1 hFc hP1 hD1
            have hP : va_P D vwCl ([(za, .inr (13, [.int 0, .ref z1, .int (nI z2), .int (nI z3), .int 9, .int (-1), .ref z6, .ref z7, .ref z8, .ref z9, .int (nI z10), .ref z11, .ref z12, .ref z13, .ref z14, .ref z15, .int (nI z16), .ref z17, .int z18, .ref z19]))] ++ va_pl L M) H_139 := hP
            have hD : va_D A ([(za, .inr (13, [.int 0, .ref z1, .int (nI z2), .int (nI z3), .int 9, .int (-1), .ref z6, .ref z7, .ref z8, .ref z9, .int (nI z10), .ref z11, .ref z12, .ref z13, .ref z14, .ref z15, .int (nI z16), .ref z17, .int z18, .ref z19]))] ++ va_pl L M) := hD
            have hq := Eq.symm hp_142
            subst hq
            rw [hQ]
            exact W.iret (v := (-1)) hx hb hr (fun t ht hW9 => ⟨⟨(-1), M, rfl, ⟨hW, hF, hG, trivial⟩, ⟨9, (-1), by rw [ht]; exact hP, hD⟩⟩, hS.F ht⟩) hS.2.2 dX13_move_83
        · have hz := rfl (a := 0)
          refine lv_if_ne (tgt := 67) hx hb dX13_move_58 (by decide) (fun c_143 => absurd c_143 (by decide)) (fun _ => ?_)
          refine lv_aload_n hx hb dX13_move_61 rfl (lv_at hl 1 rfl) ?_
          refine lv_iconst (v := 3) hx hb dX13_move_62 (by decide) ?_
          have hPc := hP.sub (ws' := [(za, .inr (13, [.int 0, .ref z1, .int (nI z2), .int (nI z3), .int z4, .int z5, .ref z6, .ref z7, .ref z8, .ref z9, .int (nI z10), .ref z11, .ref z12, .ref z13, .ref z14, .ref z15, .int (nI z16), .ref z17, .int z18, .ref z19]))]) [0] rfl
          have hDc := hD.sub (ws' := [(za, .inr (13, [.int 0, .ref z1, .int (nI z2), .int (nI z3), .int z4, .int z5, .ref z6, .ref z7, .ref z8, .ref z9, .int (nI z10), .ref z11, .ref z12, .ref z13, .ref z14, .ref z15, .int (nI z16), .ref z17, .int z18, .ref z19]))]) [0] (by decide) rfl
          have hKc := hK.sub (tys' := []) [] rfl
          have hFc := va_free (wc := [(za, .inr (13, [.int 0, .ref z1, .int (nI z2), .int (nI z3), .int z4, .int z5, .ref z6, .ref z7, .ref z8, .ref z9, .int (nI z10), .ref z11, .ref z12, .ref z13, .ref z14, .ref z15, .int (nI z16), .ref z17, .int z18, .ref z19]))]) hD hS hA [0] rfl
          refine va_calli (va_runV (As := [.int 3]) (rest := []) ⟨hx, hb, hml, hown, hg⟩ (m_refused l D H_31.size za 0 z1 (nI z2) (nI z3) z4 z5 z6 z7 z8 z9 (nI z10) z11 z12 z13 z14 z15 (nI z16) z17 z18 z19 3) (cwV 1 hg (gV wd_725 wd_726 wd_727 wd_717 wd_728) rfl rfl rfl (by decide +kernel) ⟨(Nat.le_trans (Nat.le_of_ble_eq_true rfl) hRf), (Nat.le_trans (Nat.le_of_ble_eq_true rfl) hRl)⟩) ⟨Pr.blind, va_recv hK hP (ci := 13) (q0 := 0) rfl rfl, fun U hU hW => ⟨rfl, Pr.at hPc hKc hDc hN hU hW⟩⟩ rfl rfl hl.1 rfl (lv_room (Nat.le_of_ble_eq_true rfl)) dX13_move_63 ⟨(Nat.le_trans (Nat.le_of_ble_eq_true rfl) hRc), (Nat.le_trans (Nat.le_of_ble_eq_true rfl) hRs)⟩) hS (fun q _ h => hFc q h) hFc (fun r_145 M_146 t H_144 locs ht hvm hw hB hz1 hk1 hS => ?_)
          have hp_147 := hw
          obtain ⟨hP1, hK1, hD1⟩ := hB
          rw [ht] at hP1
          obtain ⟨hP, hD⟩ := va_joinQ (X := [(za, .inr (13, [.int 0, .ref z1, .int (nI z2), .int (nI z3), .int z4, .int z5, .ref z6, .ref z7, .ref z8, .ref z9, .int (nI z10), .ref z11, .ref z12, .ref z13, .ref z14, .ref z15, .int (nI z16), .ref z17, .int z18, .ref z19]))]) (cx := [(za, .inr (13, [.int 0, .ref z1, .int (nI z2), .int (nI z3), .int z4, .int z5, .ref z6, .ref z7, .ref z8, .ref z9, .int (nI z10), .ref z11, .ref z12, .ref z13, .ref z14, .ref z15, .int (nI z16), .ref z17, .int z18, .ref z19]))]) (wr := []) (w1 := [(za, .inr (13, [.int 0, .ref z1, .int (nI z2), .int (nI z3), .int 3, .int (-1), .ref z6, .ref z7, .ref z8, .ref z9, .int (nI z10), .ref z11, .ref z12, .ref z13, .ref z14, .ref z15, .int (nI z16), .ref z17, .int z18, .ref z19]))]) (pl := va_pl L M) hP hD [0] [] rfl rfl (by decide) (by decide) hk1 hFc hP1 hD1
          have hP : va_P D vwCl ([(za, .inr (13, [.int 0, .ref z1, .int (nI z2), .int (nI z3), .int 3, .int (-1), .ref z6, .ref z7, .ref z8, .ref z9, .int (nI z10), .ref z11, .ref z12, .ref z13, .ref z14, .ref z15, .int (nI z16), .ref z17, .int z18, .ref z19]))] ++ va_pl L M) H_144 := hP
          have hD : va_D A ([(za, .inr (13, [.int 0, .ref z1, .int (nI z2), .int (nI z3), .int 3, .int (-1), .ref z6, .ref z7, .ref z8, .ref z9, .int (nI z10), .ref z11, .ref z12, .ref z13, .ref z14, .ref z15, .int (nI z16), .ref z17, .int z18, .ref z19]))] ++ va_pl L M) := hD
          have hq := Eq.symm hp_147
          subst hq
          rw [hQ]
          exact W.iret (v := (-1)) hx hb hr (fun t ht hW9 => ⟨⟨(-1), M, rfl, ⟨hW, hF, hG, trivial⟩, ⟨3, (-1), by rw [ht]; exact hP, hD⟩⟩, hS.F ht⟩) hS.2.2 dX13_move_66
      · have hz := rfl (a := 0)
        refine lv_if_eq (tgt := 61) hx hb dX13_move_48 (by decide) (fun _ => ?_) (fun c_148 => absurd c_148 (by decide))
        refine lv_aload_n hx hb dX13_move_61 rfl (lv_at hl 1 rfl) ?_
        refine lv_iconst (v := 3) hx hb dX13_move_62 (by decide) ?_
        have hPc := hP.sub (ws' := [(za, .inr (13, [.int 0, .ref z1, .int (nI z2), .int (nI z3), .int z4, .int z5, .ref z6, .ref z7, .ref z8, .ref z9, .int (nI z10), .ref z11, .ref z12, .ref z13, .ref z14, .ref z15, .int (nI z16), .ref z17, .int z18, .ref z19]))]) [0] rfl
        have hDc := hD.sub (ws' := [(za, .inr (13, [.int 0, .ref z1, .int (nI z2), .int (nI z3), .int z4, .int z5, .ref z6, .ref z7, .ref z8, .ref z9, .int (nI z10), .ref z11, .ref z12, .ref z13, .ref z14, .ref z15, .int (nI z16), .ref z17, .int z18, .ref z19]))]) [0] (by decide) rfl
        have hKc := hK.sub (tys' := []) [] rfl
        have hFc := va_free (wc := [(za, .inr (13, [.int 0, .ref z1, .int (nI z2), .int (nI z3), .int z4, .int z5, .ref z6, .ref z7, .ref z8, .ref z9, .int (nI z10), .ref z11, .ref z12, .ref z13, .ref z14, .ref z15, .int (nI z16), .ref z17, .int z18, .ref z19]))]) hD hS hA [0] rfl
        refine va_calli (va_runV (As := [.int 3]) (rest := []) ⟨hx, hb, hml, hown, hg⟩ (m_refused l D H_22.size za 0 z1 (nI z2) (nI z3) z4 z5 z6 z7 z8 z9 (nI z10) z11 z12 z13 z14 z15 (nI z16) z17 z18 z19 3) (cwV 1 hg (gV wd_725 wd_726 wd_727 wd_717 wd_728) rfl rfl rfl (by decide +kernel) ⟨(Nat.le_trans (Nat.le_of_ble_eq_true rfl) hRf), (Nat.le_trans (Nat.le_of_ble_eq_true rfl) hRl)⟩) ⟨Pr.blind, va_recv hK hP (ci := 13) (q0 := 0) rfl rfl, fun U hU hW => ⟨rfl, Pr.at hPc hKc hDc hN hU hW⟩⟩ rfl rfl hl.1 rfl (lv_room (Nat.le_of_ble_eq_true rfl)) dX13_move_63 ⟨(Nat.le_trans (Nat.le_of_ble_eq_true rfl) hRc), (Nat.le_trans (Nat.le_of_ble_eq_true rfl) hRs)⟩) hS (fun q _ h => hFc q h) hFc (fun r_150 M_151 t H_149 locs ht hvm hw hB hz1 hk1 hS => ?_)
        have hp_152 := hw
        obtain ⟨hP1, hK1, hD1⟩ := hB
        rw [ht] at hP1
        obtain ⟨hP, hD⟩ := va_joinQ (X := [(za, .inr (13, [.int 0, .ref z1, .int (nI z2), .int (nI z3), .int z4, .int z5, .ref z6, .ref z7, .ref z8, .ref z9, .int (nI z10), .ref z11, .ref z12, .ref z13, .ref z14, .ref z15, .int (nI z16), .ref z17, .int z18, .ref z19]))]) (cx := [(za, .inr (13, [.int 0, .ref z1, .int (nI z2), .int (nI z3), .int z4, .int z5, .ref z6, .ref z7, .ref z8, .ref z9, .int (nI z10), .ref z11, .ref z12, .ref z13, .ref z14, .ref z15, .int (nI z16), .ref z17, .int z18, .ref z19]))]) (wr := []) (w1 := [(za, .inr (13, [.int 0, .ref z1, .int (nI z2), .int (nI z3), .int 3, .int (-1), .ref z6, .ref z7, .ref z8, .ref z9, .int (nI z10), .ref z11, .ref z12, .ref z13, .ref z14, .ref z15, .int (nI z16), .ref z17, .int z18, .ref z19]))]) (pl := va_pl L M) hP hD [0] [] rfl rfl (by decide) (by decide) hk1 hFc hP1 hD1
        have hP : va_P D vwCl ([(za, .inr (13, [.int 0, .ref z1, .int (nI z2), .int (nI z3), .int 3, .int (-1), .ref z6, .ref z7, .ref z8, .ref z9, .int (nI z10), .ref z11, .ref z12, .ref z13, .ref z14, .ref z15, .int (nI z16), .ref z17, .int z18, .ref z19]))] ++ va_pl L M) H_149 := hP
        have hD : va_D A ([(za, .inr (13, [.int 0, .ref z1, .int (nI z2), .int (nI z3), .int 3, .int (-1), .ref z6, .ref z7, .ref z8, .ref z9, .int (nI z10), .ref z11, .ref z12, .ref z13, .ref z14, .ref z15, .int (nI z16), .ref z17, .int z18, .ref z19]))] ++ va_pl L M) := hD
        have hq := Eq.symm hp_152
        subst hq
        rw [hQ]
        exact W.iret (v := (-1)) hx hb hr (fun t ht hW9 => ⟨⟨(-1), M, rfl, ⟨hW, hF, hG, trivial⟩, ⟨3, (-1), by rw [ht]; exact hP, hD⟩⟩, hS.F ht⟩) hS.2.2 dX13_move_66
    · have hz := rfl (a := 0)
      refine lv_if_ne (tgt := 34) hx hb dX13_move_25 (by decide) (fun c_153 => absurd c_153 (by decide)) (fun _ => ?_)
      refine lv_aload_n hx hb dX13_move_28 rfl (lv_at hl 0 rfl) ?_
      refine lv_iconst (v := 2) hx hb dX13_move_29 (by decide) ?_
      have hPc := hP.sub (ws' := [(za, .inr (13, [.int 0, .ref z1, .int (nI z2), .int (nI z3), .int z4, .int z5, .ref z6, .ref z7, .ref z8, .ref z9, .int (nI z10), .ref z11, .ref z12, .ref z13, .ref z14, .ref z15, .int (nI z16), .ref z17, .int z18, .ref z19]))]) [0] rfl
      have hDc := hD.sub (ws' := [(za, .inr (13, [.int 0, .ref z1, .int (nI z2), .int (nI z3), .int z4, .int z5, .ref z6, .ref z7, .ref z8, .ref z9, .int (nI z10), .ref z11, .ref z12, .ref z13, .ref z14, .ref z15, .int (nI z16), .ref z17, .int z18, .ref z19]))]) [0] (by decide) rfl
      have hKc := hK.sub (tys' := []) [] rfl
      have hFc := va_free (wc := [(za, .inr (13, [.int 0, .ref z1, .int (nI z2), .int (nI z3), .int z4, .int z5, .ref z6, .ref z7, .ref z8, .ref z9, .int (nI z10), .ref z11, .ref z12, .ref z13, .ref z14, .ref z15, .int (nI z16), .ref z17, .int z18, .ref z19]))]) hD hS hA [0] rfl
      refine va_calli (va_runV (As := [.int 2]) (rest := []) ⟨hx, hb, hml, hown, hg⟩ (m_refused l D H_11.size za 0 z1 (nI z2) (nI z3) z4 z5 z6 z7 z8 z9 (nI z10) z11 z12 z13 z14 z15 (nI z16) z17 z18 z19 2) (cwV 1 hg (gV wd_725 wd_726 wd_727 wd_717 wd_728) rfl rfl rfl (by decide +kernel) ⟨(Nat.le_trans (Nat.le_of_ble_eq_true rfl) hRf), (Nat.le_trans (Nat.le_of_ble_eq_true rfl) hRl)⟩) ⟨Pr.blind, va_recv hK hP (ci := 13) (q0 := 0) rfl rfl, fun U hU hW => ⟨rfl, Pr.at hPc hKc hDc hN hU hW⟩⟩ rfl rfl hl.1 rfl (lv_room (Nat.le_of_ble_eq_true rfl)) dX13_move_30 ⟨(Nat.le_trans (Nat.le_of_ble_eq_true rfl) hRc), (Nat.le_trans (Nat.le_of_ble_eq_true rfl) hRs)⟩) hS (fun q _ h => hFc q h) hFc (fun r_155 M_156 t H_154 locs ht hvm hw hB hz1 hk1 hS => ?_)
      have hp_157 := hw
      obtain ⟨hP1, hK1, hD1⟩ := hB
      rw [ht] at hP1
      obtain ⟨hP, hD⟩ := va_joinQ (X := [(za, .inr (13, [.int 0, .ref z1, .int (nI z2), .int (nI z3), .int z4, .int z5, .ref z6, .ref z7, .ref z8, .ref z9, .int (nI z10), .ref z11, .ref z12, .ref z13, .ref z14, .ref z15, .int (nI z16), .ref z17, .int z18, .ref z19]))]) (cx := [(za, .inr (13, [.int 0, .ref z1, .int (nI z2), .int (nI z3), .int z4, .int z5, .ref z6, .ref z7, .ref z8, .ref z9, .int (nI z10), .ref z11, .ref z12, .ref z13, .ref z14, .ref z15, .int (nI z16), .ref z17, .int z18, .ref z19]))]) (wr := []) (w1 := [(za, .inr (13, [.int 0, .ref z1, .int (nI z2), .int (nI z3), .int 2, .int (-1), .ref z6, .ref z7, .ref z8, .ref z9, .int (nI z10), .ref z11, .ref z12, .ref z13, .ref z14, .ref z15, .int (nI z16), .ref z17, .int z18, .ref z19]))]) (pl := va_pl L M) hP hD [0] [] rfl rfl (by decide) (by decide) hk1 hFc hP1 hD1
      have hP : va_P D vwCl ([(za, .inr (13, [.int 0, .ref z1, .int (nI z2), .int (nI z3), .int 2, .int (-1), .ref z6, .ref z7, .ref z8, .ref z9, .int (nI z10), .ref z11, .ref z12, .ref z13, .ref z14, .ref z15, .int (nI z16), .ref z17, .int z18, .ref z19]))] ++ va_pl L M) H_154 := hP
      have hD : va_D A ([(za, .inr (13, [.int 0, .ref z1, .int (nI z2), .int (nI z3), .int 2, .int (-1), .ref z6, .ref z7, .ref z8, .ref z9, .int (nI z10), .ref z11, .ref z12, .ref z13, .ref z14, .ref z15, .int (nI z16), .ref z17, .int z18, .ref z19]))] ++ va_pl L M) := hD
      have hq := Eq.symm hp_157
      subst hq
      rw [hQ]
      exact W.iret (v := (-1)) hx hb hr (fun t ht hW9 => ⟨⟨(-1), M, rfl, ⟨hW, hF, hG, trivial⟩, ⟨2, (-1), by rw [ht]; exact hP, hD⟩⟩, hS.F ht⟩) hS.2.2 dX13_move_33
  · have hz := rfl (a := 0)
    refine lv_if_ne (tgt := 20) hx hb dX13_move_11 (by decide) (fun c_158 => absurd c_158 (by decide)) (fun _ => ?_)
    refine lv_aload_n hx hb dX13_move_14 rfl (lv_at hl 0 rfl) ?_
    refine lv_iconst (v := 1) hx hb dX13_move_15 (by decide) ?_
    have hPc := hP.sub (ws' := [(za, .inr (13, [.int 0, .ref z1, .int (nI z2), .int (nI z3), .int z4, .int z5, .ref z6, .ref z7, .ref z8, .ref z9, .int (nI z10), .ref z11, .ref z12, .ref z13, .ref z14, .ref z15, .int (nI z16), .ref z17, .int z18, .ref z19]))]) [0] rfl
    have hDc := hD.sub (ws' := [(za, .inr (13, [.int 0, .ref z1, .int (nI z2), .int (nI z3), .int z4, .int z5, .ref z6, .ref z7, .ref z8, .ref z9, .int (nI z10), .ref z11, .ref z12, .ref z13, .ref z14, .ref z15, .int (nI z16), .ref z17, .int z18, .ref z19]))]) [0] (by decide) rfl
    have hKc := hK.sub (tys' := []) [] rfl
    have hFc := va_free (wc := [(za, .inr (13, [.int 0, .ref z1, .int (nI z2), .int (nI z3), .int z4, .int z5, .ref z6, .ref z7, .ref z8, .ref z9, .int (nI z10), .ref z11, .ref z12, .ref z13, .ref z14, .ref z15, .int (nI z16), .ref z17, .int z18, .ref z19]))]) hD hS hA [0] rfl
    refine va_calli (va_runV (As := [.int 1]) (rest := []) ⟨hx, hb, hml, hown, hg⟩ (m_refused l D H_2.size za 0 z1 (nI z2) (nI z3) z4 z5 z6 z7 z8 z9 (nI z10) z11 z12 z13 z14 z15 (nI z16) z17 z18 z19 1) (cwV 1 hg (gV wd_725 wd_726 wd_727 wd_717 wd_728) rfl rfl rfl (by decide +kernel) ⟨(Nat.le_trans (Nat.le_of_ble_eq_true rfl) hRf), (Nat.le_trans (Nat.le_of_ble_eq_true rfl) hRl)⟩) ⟨Pr.blind, va_recv hK hP (ci := 13) (q0 := 0) rfl rfl, fun U hU hW => ⟨rfl, Pr.at hPc hKc hDc hN hU hW⟩⟩ rfl rfl hl.1 rfl (lv_room (Nat.le_of_ble_eq_true rfl)) dX13_move_16 ⟨(Nat.le_trans (Nat.le_of_ble_eq_true rfl) hRc), (Nat.le_trans (Nat.le_of_ble_eq_true rfl) hRs)⟩) hS (fun q _ h => hFc q h) hFc (fun r_160 M_161 t H_159 locs ht hvm hw hB hz1 hk1 hS => ?_)
    have hp_162 := hw
    obtain ⟨hP1, hK1, hD1⟩ := hB
    rw [ht] at hP1
    obtain ⟨hP, hD⟩ := va_joinQ (X := [(za, .inr (13, [.int 0, .ref z1, .int (nI z2), .int (nI z3), .int z4, .int z5, .ref z6, .ref z7, .ref z8, .ref z9, .int (nI z10), .ref z11, .ref z12, .ref z13, .ref z14, .ref z15, .int (nI z16), .ref z17, .int z18, .ref z19]))]) (cx := [(za, .inr (13, [.int 0, .ref z1, .int (nI z2), .int (nI z3), .int z4, .int z5, .ref z6, .ref z7, .ref z8, .ref z9, .int (nI z10), .ref z11, .ref z12, .ref z13, .ref z14, .ref z15, .int (nI z16), .ref z17, .int z18, .ref z19]))]) (wr := []) (w1 := [(za, .inr (13, [.int 0, .ref z1, .int (nI z2), .int (nI z3), .int 1, .int (-1), .ref z6, .ref z7, .ref z8, .ref z9, .int (nI z10), .ref z11, .ref z12, .ref z13, .ref z14, .ref z15, .int (nI z16), .ref z17, .int z18, .ref z19]))]) (pl := va_pl L M) hP hD [0] [] rfl rfl (by decide) (by decide) hk1 hFc hP1 hD1
    have hP : va_P D vwCl ([(za, .inr (13, [.int 0, .ref z1, .int (nI z2), .int (nI z3), .int 1, .int (-1), .ref z6, .ref z7, .ref z8, .ref z9, .int (nI z10), .ref z11, .ref z12, .ref z13, .ref z14, .ref z15, .int (nI z16), .ref z17, .int z18, .ref z19]))] ++ va_pl L M) H_159 := hP
    have hD : va_D A ([(za, .inr (13, [.int 0, .ref z1, .int (nI z2), .int (nI z3), .int 1, .int (-1), .ref z6, .ref z7, .ref z8, .ref z9, .int (nI z10), .ref z11, .ref z12, .ref z13, .ref z14, .ref z15, .int (nI z16), .ref z17, .int z18, .ref z19]))] ++ va_pl L M) := hD
    have hq := Eq.symm hp_162
    subst hq
    rw [hQ]
    exact W.iret (v := (-1)) hx hb hr (fun t ht hW9 => ⟨⟨(-1), M, rfl, ⟨hW, hF, hG, trivial⟩, ⟨1, (-1), by rw [ht]; exact hP, hD⟩⟩, hS.F ht⟩) hS.2.2 dX13_move_19
set_option maxHeartbeats 4000000 in
set_option maxRecDepth 100000 in
theorem r_X13_leave (l : Launch) (D : va_G) (cy : Nat → ClassId) (K : Kp) (L : List Nat) (M : Hp) (sz : Nat) (za : Nat) (z0 : Int32) (z1 : Nat) (z2 : Nat) (z3 : Nat) (z4 : Int32) (z5 : Int32) (z6 : Nat) (z7 : Nat) (z8 : Nat) (z9 : Nat) (z10 : Nat) (z11 : Nat) (z12 : Nat) (z13 : Nat) (z14 : Nat) (z15 : Nat) (z16 : Nat) (z17 : Nat) (z18 : Int32) (z19 : Nat) (k1 : Int32) (k2 : Int32) (k3 : Int32) (k4 : Int32) (k5 : Int32) (hW : WOM cy K L M) (i1 : isk K L z1 23 8) (b2 : z2 ≤ 8) (b3 : z3 ≤ 40) (i6 : isk K L z6 47 40) (i7 : isk K L z7 48 40) (i8 : isk K L z8 49 8) (i9 : isk K L z9 50 8) (b10 : z10 ≤ 8) (i11 : isk K L z11 32 24) (i12 : isk K L z12 14 24) (i13 : isk K L z13 15 24) (i14 : isk K L z14 15 24) (i15 : isk K L z15 15 24) (b16 : z16 ≤ 24) (i17 : isk K L z17 14 24) (i19 : isk K L z19 15 25) : Met l yX13_leave (wsM yX13_leave cX13_leave 8 (some .int)) ({ frames := 2, cells := 0, slots := 0, locals := 43 }) (va_Pc [.ref za, .int k1, .int k2, .int k3, .int k4, .int k5] (PG D cy [(za, .inr (13, [.int z0, .ref z1, .int (nI z2), .int (nI z3), .int z4, .int z5, .ref z6, .ref z7, .ref z8, .ref z9, .int (nI z10), .ref z11, .ref z12, .ref z13, .ref z14, .ref z15, .int (nI z16), .ref z17, .int z18, .ref z19]))] L M sz)) (va_Qi (fun (r : Int32) (M9 : Hp) => WOM cy K L M9 ∧ fr K L [14, 41, 42, 76] M M9 ∧ (True)) (fun M9 t => ∃ (w4 : Int32) (w5 : Int32), PQ D [(za, .inr (13, [.int 0, .ref z1, .int (nI z2), .int (nI z3), .int w4, .int w5, .ref z6, .ref z7, .ref z8, .ref z9, .int (nI z10), .ref z11, .ref z12, .ref z13, .ref z14, .ref z15, .int (nI z16), .ref z17, .int z18, .ref z19]))] L M9 (va_A ([(za, .inr (13, [.int z0, .ref z1, .int (nI z2), .int (nI z3), .int z4, .int z5, .ref z6, .ref z7, .ref z8, .ref z9, .int (nI z10), .ref z11, .ref z12, .ref z13, .ref z14, .ref z15, .int (nI z16), .ref z17, .int z18, .ref z19]))] ++ va_pl L M) sz) t) (va_A ([(za, .inr (13, [.int z0, .ref z1, .int (nI z2), .int (nI z3), .int z4, .int z5, .ref z6, .ref z7, .ref z8, .ref z9, .int (nI z10), .ref z11, .ref z12, .ref z13, .ref z14, .ref z15, .int (nI z16), .ref z17, .int z18, .ref z19]))] ++ va_pl L M) sz)) 0 0 (va_A ([(za, .inr (13, [.int z0, .ref z1, .int (nI z2), .int (nI z3), .int z4, .int z5, .ref z6, .ref z7, .ref z8, .ref z9, .int (nI z10), .ref z11, .ref z12, .ref z13, .ref z14, .ref z15, .int (nI z16), .ref z17, .int z18, .ref z19]))] ++ va_pl L M) sz) := by
  refine Met.ofW (cc := cX13_leave) (maxL := 8) (ret := (some .int)) (by decide) rfl ?_
  intro p e s m args below meth c s₁ B hml hv
  obtain ⟨rfl, hsz, hP, hK, hD0, hN⟩ := hv
  have hx := B.exec
  have hb := B.bytes
  have hr := B.returns
  have hts := atoms_spec (ws := (wsM yX13_leave cX13_leave 8 (some .int))) B.pre
  have hg : ∀ w ∈ lw_good, w.before _ s = true := fun w h => hts w (List.mem_cons_of_mem _ h)
  have hown : s.vm.findClass RX13 = some m.cls := findClass_of_methodNamed B.named
  have hlocks := B.notSynchronized
  subst hsz
  have hD := hD0.self (sz := s.heap.size)
  generalize hAe : va_A ([(za, .inr (13, [.int z0, .ref z1, .int (nI z2), .int (nI z3), .int z4, .int z5, .ref z6, .ref z7, .ref z8, .ref z9, .int (nI z10), .ref z11, .ref z12, .ref z13, .ref z14, .ref z15, .int (nI z16), .ref z17, .int z18, .ref z19]))] ++ va_pl L M) s.heap.size = A at hD ⊢
  have hA : ∀ q : Nat, s.heap.size ≤ q → A q := fun q h => by rw [← hAe]; exact Or.inr h
  have hS : va_S A s.heap s.heap [] := va_S.rf
  have hl := lv_entry ([.ref za, .int k1, .int k2, .int k3, .int k4, .int k5]) (n := 8) (Nat.le_of_ble_eq_true rfl)
  rw [lg_entry_eq]
  generalize (lg_sl ([.ref za, .int k1, .int k2, .int k3, .int k4, .int k5]) ++ List.replicate (8 - (lg_sl ([.ref za, .int k1, .int k2, .int k3, .int k4, .int k5])).length) Slot.unset).toArray = ls at hl ⊢
  refine W.nameQ (fun Q hQ => ?_)
  refine W.nameR (fun R hR => ?_)
  have hRf : 2 ≤ R.frames := by rw [hR]; exact Nat.le_of_ble_eq_true rfl
  have hRl : 43 ≤ R.locals := by rw [hR]; exact Nat.le_of_ble_eq_true rfl
  have hRc : 0 ≤ R.cells := by rw [hR]; exact Nat.le_of_ble_eq_true rfl
  have hRs : 0 ≤ R.slots := by rw [hR]; exact Nat.le_of_ble_eq_true rfl
  have hF : fr K L [14, 41, 42, 76] M M := fr.rf
  have hl : lv_has ls 8 [(0, .ref za), (1, .int k1), (2, .int k2), (3, .int k3), (4, .int k4), (5, .int k5)] := hl
  refine lv_aload_n hx hb dX13_leave_0 rfl (lv_at hl 0 rfl) ?_
  refine lv_iconst (v := 0) hx hb dX13_leave_1 (by decide) ?_
  refine va_put (D := D) (ci := 13) (v := .int 0) (ty := .int) (C := RX13) (T := TX13) (N := 20) hx hb hg inG13 tyX13 tyX13_ok nmX13 hown hK hP hD hS 0 rfl rfl 0 (by decide) (hg _ wd_720) (fun _ h9 => h9) rfl (by decide +kernel) rfl rfl (Nat.le_of_ble_eq_true rfl) dX13_leave_2 (fun H_1 locs hP hD hS => ?_)
  have hP : va_P D vwCl ([(za, .inr (13, [.int 0, .ref z1, .int (nI z2), .int (nI z3), .int z4, .int z5, .ref z6, .ref z7, .ref z8, .ref z9, .int (nI z10), .ref z11, .ref z12, .ref z13, .ref z14, .ref z15, .int (nI z16), .ref z17, .int z18, .ref z19]))] ++ va_pl L M) H_1 := hP
  have hD : va_D A ([(za, .inr (13, [.int 0, .ref z1, .int (nI z2), .int (nI z3), .int z4, .int z5, .ref z6, .ref z7, .ref z8, .ref z9, .int (nI z10), .ref z11, .ref z12, .ref z13, .ref z14, .ref z15, .int (nI z16), .ref z17, .int z18, .ref z19]))] ++ va_pl L M) := hD
  refine lv_aload_n hx hb dX13_leave_5 rfl (lv_at hl 0 rfl) ?_
  refine lv_iload_n hx hb dX13_leave_6 rfl (lv_at hl 1 rfl) ?_
  refine lv_iload_n hx hb dX13_leave_7 rfl (lv_at hl 2 rfl) ?_
  have hPc : va_P D vwCl ([(za, .inr (13, [.int 0, .ref z1, .int (nI z2), .int (nI z3), .int z4, .int z5, .ref z6, .ref z7, .ref z8, .ref z9, .int (nI z10), .ref z11, .ref z12, .ref z13, .ref z14, .ref z15, .int (nI z16), .ref z17, .int z18, .ref z19]))] ++ va_pl L M) H_1 := hP
  have hDc : va_D A ([(za, .inr (13, [.int 0, .ref z1, .int (nI z2), .int (nI z3), .int z4, .int z5, .ref z6, .ref z7, .ref z8, .ref z9, .int (nI z10), .ref z11, .ref z12, .ref z13, .ref z14, .ref z15, .int (nI z16), .ref z17, .int z18, .ref z19]))] ++ va_pl L M) := hD
  have hFc : ∀ q, va_A ([(za, .inr (13, [.int 0, .ref z1, .int (nI z2), .int (nI z3), .int z4, .int z5, .ref z6, .ref z7, .ref z8, .ref z9, .int (nI z10), .ref z11, .ref z12, .ref z13, .ref z14, .ref z15, .int (nI z16), .ref z17, .int z18, .ref z19]))] ++ va_pl L M) H_1.size q → A q := pg_free hDc hS hA
  refine va_calli (va_runV (As := [.int k1, .int k2]) (rest := []) ⟨hx, hb, hml, hown, hg⟩ (r_X13_isSeat l D cy K L M H_1.size za 0 z1 z2 z3 z4 z5 z6 z7 z8 z9 z10 z11 z12 z13 z14 z15 z16 z17 z18 z19 k1 k2  hW i1 b2 b3 i6 i7 i8 i9 b10 i11 i12 i13 i14 i15 b16 i17 i19) (cwV 2 hg (gV wd_744 wd_745 wd_746 wd_717 wd_747) rfl rfl rfl (by decide +kernel) ⟨(Nat.le_trans (Nat.le_of_ble_eq_true rfl) hRf), (Nat.le_trans (Nat.le_of_ble_eq_true rfl) hRl)⟩) ⟨PG.blind, va_recv hK hP (ci := 13) (q0 := 0) rfl rfl, fun U hU hW => ⟨rfl, PG.at hPc hK hDc hN hU hW⟩⟩ rfl rfl hl.1 rfl (lv_room (Nat.le_of_ble_eq_true rfl)) dX13_leave_8 ⟨(Nat.le_trans (Nat.le_of_ble_eq_true rfl) hRc), (Nat.le_trans (Nat.le_of_ble_eq_true rfl) hRs)⟩) hS (fun q _ h => hFc q h) hFc (fun r_3 M_4 t H_2 locs ht hvm hw hB hz1 hk1 hS => ?_)
  have hp_5 := hw
  obtain ⟨hP1, hD1⟩ := hB
  rw [ht] at hP1
  have hP : va_P D vwCl ([(za, .inr (13, [.int 0, .ref z1, .int (nI z2), .int (nI z3), .int z4, .int z5, .ref z6, .ref z7, .ref z8, .ref z9, .int (nI z10), .ref z11, .ref z12, .ref z13, .ref z14, .ref z15, .int (nI z16), .ref z17, .int z18, .ref z19]))] ++ va_pl L M) H_2 := hP1
  have hD : va_D A ([(za, .inr (13, [.int 0, .ref z1, .int (nI z2), .int (nI z3), .int z4, .int z5, .ref z6, .ref z7, .ref z8, .ref z9, .int (nI z10), .ref z11, .ref z12, .ref z13, .ref z14, .ref z15, .int (nI z16), .ref z17, .int z18, .ref z19]))] ++ va_pl L M) := hD1.mono hFc
  rcases hp_5 with ⟨rfl, c_6, c_7, c_8, c_9⟩ | rfl
  · have hz := rfl (a := 0)
    refine lv_if_ne (tgt := 20) hx hb dX13_leave_11 (by decide) (fun _ => ?_) (fun c_10 => absurd c_10 (by decide))
    refine lv_aload_n hx hb dX13_leave_20 rfl (lv_at hl 0 rfl) ?_
    refine va_get (D := D) (ci := 13) (v := .ref z1) (C := RX13) (T := TX13) (N := 20) hx hb hg inG13 hown hK hP 0 rfl rfl 1 (by decide) (hg _ wd_739) (fun _ h9 => h9) rfl dX13_leave_21 ?_
    refine lv_iload_n hx hb dX13_leave_24 rfl (lv_at hl 1 rfl) ?_
    obtain ⟨f11, hM11, hf11⟩ := hW.open_23 i1
    have hi_12 : vp_in k1 8 := (inbW (a := z2) (by omega) (inb k1 z2 (by omega) c_6 c_7))
    refine pg_aldq hx hb hK hP i1.1 9 hM11 rfl hi_12 dX13_leave_25 ?_
    obtain ⟨b13, eb_14, hb_15⟩ := hf11 _ (vp_lt hi_12)
    rw [eb_14]
    refine lv_astore (lv' := [(6, .ref b13), (0, .ref za), (1, .int k1), (2, .int k2), (3, .int k3), (4, .int k4), (5, .int k5)]) hx hb dX13_leave_26 hl (by decide) rfl (fun ls hl => ?_)
    refine lv_aload_n hx hb dX13_leave_28 rfl (lv_at hl 1 rfl) ?_
    refine lv_aload hx hb dX13_leave_29 (lv_at hl 0 rfl) ?_
    refine lv_iload_n hx hb dX13_leave_31 rfl (lv_at hl 3 rfl) ?_
    obtain ⟨j_16, hj_17, rfl⟩ := i32nat 6 (by decide) c_8 c_9
    have hPc : va_P D vwCl ([(za, .inr (13, [.int 0, .ref z1, .int (nI z2), .int (nI z3), .int z4, .int z5, .ref z6, .ref z7, .ref z8, .ref z9, .int (nI z10), .ref z11, .ref z12, .ref z13, .ref z14, .ref z15, .int (nI z16), .ref z17, .int z18, .ref z19]))] ++ va_pl L M) H_2 := hP
    have hDc : va_D A ([(za, .inr (13, [.int 0, .ref z1, .int (nI z2), .int (nI z3), .int z4, .int z5, .ref z6, .ref z7, .ref z8, .ref z9, .int (nI z10), .ref z11, .ref z12, .ref z13, .ref z14, .ref z15, .int (nI z16), .ref z17, .int z18, .ref z19]))] ++ va_pl L M) := hD
    have hFc : ∀ q, va_A ([(za, .inr (13, [.int 0, .ref z1, .int (nI z2), .int (nI z3), .int z4, .int z5, .ref z6, .ref z7, .ref z8, .ref z9, .int (nI z10), .ref z11, .ref z12, .ref z13, .ref z14, .ref z15, .int (nI z16), .ref z17, .int z18, .ref z19]))] ++ va_pl L M) H_2.size q → A q := pg_free hDc hS hA
    refine va_calli (va_runV (As := [.ref b13, .int (nI j_16)]) (rest := []) ⟨hx, hb, hml, hown, hg⟩ (r_X13_holder l D cy K L M H_2.size za 0 z1 z2 z3 z4 z5 z6 z7 z8 z9 z10 z11 z12 z13 z14 z15 z16 z17 z18 z19 b13 j_16  hW i1 b2 b3 i6 i7 i8 i9 b10 i11 i12 i13 i14 i15 b16 i17 i19 hb_15 (by omega)) (cwV 2 hg (gV wd_779 wd_780 wd_781 wd_717 wd_782) rfl rfl rfl (by decide +kernel) ⟨(Nat.le_trans (Nat.le_of_ble_eq_true rfl) hRf), (Nat.le_trans (Nat.le_of_ble_eq_true rfl) hRl)⟩) ⟨PG.blind, va_recv hK hP (ci := 13) (q0 := 0) rfl rfl, fun U hU hW => ⟨rfl, PG.at hPc hK hDc hN hU hW⟩⟩ rfl rfl hl.1 rfl (lv_room (Nat.le_of_ble_eq_true rfl)) dX13_leave_32 ⟨(Nat.le_trans (Nat.le_of_ble_eq_true rfl) hRc), (Nat.le_trans (Nat.le_of_ble_eq_true rfl) hRs)⟩) hS (fun q _ h => hFc q h) hFc (fun r_19 M_20 t H_18 locs ht hvm hw hB hz1 hk1 hS => ?_)
    have hp_21 := hw
    obtain ⟨hP1, hD1⟩ := hB
    rw [ht] at hP1
    have hP : va_P D vwCl ([(za, .inr (13, [.int 0, .ref z1, .int (nI z2), .int (nI z3), .int z4, .int z5, .ref z6, .ref z7, .ref z8, .ref z9, .int (nI z10), .ref z11, .ref z12, .ref z13, .ref z14, .ref z15, .int (nI z16), .ref z17, .int z18, .ref z19]))] ++ va_pl L M) H_18 := hP1
    have hD : va_D A ([(za, .inr (13, [.int 0, .ref z1, .int (nI z2), .int (nI z3), .int z4, .int z5, .ref z6, .ref z7, .ref z8, .ref z9, .int (nI z10), .ref z11, .ref z12, .ref z13, .ref z14, .ref z15, .int (nI z16), .ref z17, .int z18, .ref z19]))] ++ va_pl L M) := hD1.mono hFc
    rcases hp_21 with rfl | ⟨j_22, rfl, c_23⟩
    · have hz := rfl (a := 0)
      refine lv_istore (lv' := [(7, .int (-1)), (6, .ref b13), (0, .ref za), (1, .int k1), (2, .int (nI j_16)), (3, .int k3), (4, .int k4), (5, .int k5)]) hx hb dX13_leave_35 hl (by decide) rfl (fun ls hl => ?_)
      refine lv_iload hx hb dX13_leave_37 (lv_at hl 0 rfl) ?_
      refine lv_iconst (v := (-1)) hx hb dX13_leave_39 (by decide) ?_
      refine lv_icmp_ne (tgt := 49) hx hb dX13_leave_40 (by decide) (fun c_24 => absurd c_24 (by decide)) (fun _ => ?_)
      refine lv_aload_n hx hb dX13_leave_43 rfl (lv_at hl 2 rfl) ?_
      refine lv_iconst (v := 4) hx hb dX13_leave_44 (by decide) ?_
      have hPc := hP.sub (ws' := [(za, .inr (13, [.int 0, .ref z1, .int (nI z2), .int (nI z3), .int z4, .int z5, .ref z6, .ref z7, .ref z8, .ref z9, .int (nI z10), .ref z11, .ref z12, .ref z13, .ref z14, .ref z15, .int (nI z16), .ref z17, .int z18, .ref z19]))]) [0] rfl
      have hDc := hD.sub (ws' := [(za, .inr (13, [.int 0, .ref z1, .int (nI z2), .int (nI z3), .int z4, .int z5, .ref z6, .ref z7, .ref z8, .ref z9, .int (nI z10), .ref z11, .ref z12, .ref z13, .ref z14, .ref z15, .int (nI z16), .ref z17, .int z18, .ref z19]))]) [0] (by decide) rfl
      have hKc := hK.sub (tys' := []) [] rfl
      have hFc := va_free (wc := [(za, .inr (13, [.int 0, .ref z1, .int (nI z2), .int (nI z3), .int z4, .int z5, .ref z6, .ref z7, .ref z8, .ref z9, .int (nI z10), .ref z11, .ref z12, .ref z13, .ref z14, .ref z15, .int (nI z16), .ref z17, .int z18, .ref z19]))]) hD hS hA [0] rfl
      refine va_calli (va_runV (As := [.int 4]) (rest := []) ⟨hx, hb, hml, hown, hg⟩ (m_refused l D H_18.size za 0 z1 (nI z2) (nI z3) z4 z5 z6 z7 z8 z9 (nI z10) z11 z12 z13 z14 z15 (nI z16) z17 z18 z19 4) (cwV 1 hg (gV wd_725 wd_726 wd_727 wd_717 wd_728) rfl rfl rfl (by decide +kernel) ⟨(Nat.le_trans (Nat.le_of_ble_eq_true rfl) hRf), (Nat.le_trans (Nat.le_of_ble_eq_true rfl) hRl)⟩) ⟨Pr.blind, va_recv hK hP (ci := 13) (q0 := 0) rfl rfl, fun U hU hW => ⟨rfl, Pr.at hPc hKc hDc hN hU hW⟩⟩ rfl rfl hl.1 rfl (lv_room (Nat.le_of_ble_eq_true rfl)) dX13_leave_45 ⟨(Nat.le_trans (Nat.le_of_ble_eq_true rfl) hRc), (Nat.le_trans (Nat.le_of_ble_eq_true rfl) hRs)⟩) hS (fun q _ h => hFc q h) hFc (fun r_26 M_27 t H_25 locs ht hvm hw hB hz1 hk1 hS => ?_)
      have hp_28 := hw
      obtain ⟨hP1, hK1, hD1⟩ := hB
      rw [ht] at hP1
      obtain ⟨hP, hD⟩ := va_joinQ (X := [(za, .inr (13, [.int 0, .ref z1, .int (nI z2), .int (nI z3), .int z4, .int z5, .ref z6, .ref z7, .ref z8, .ref z9, .int (nI z10), .ref z11, .ref z12, .ref z13, .ref z14, .ref z15, .int (nI z16), .ref z17, .int z18, .ref z19]))]) (cx := [(za, .inr (13, [.int 0, .ref z1, .int (nI z2), .int (nI z3), .int z4, .int z5, .ref z6, .ref z7, .ref z8, .ref z9, .int (nI z10), .ref z11, .ref z12, .ref z13, .ref z14, .ref z15, .int (nI z16), .ref z17, .int z18, .ref z19]))]) (wr := []) (w1 := [(za, .inr (13, [.int 0, .ref z1, .int (nI z2), .int (nI z3), .int 4, .int (-1), .ref z6, .ref z7, .ref z8, .ref z9, .int (nI z10), .ref z11, .ref z12, .ref z13, .ref z14, .ref z15, .int (nI z16), .ref z17, .int z18, .ref z19]))]) (pl := va_pl L M) hP hD [0] [] rfl rfl (by decide) (by decide) hk1 hFc hP1 hD1
      have hP : va_P D vwCl ([(za, .inr (13, [.int 0, .ref z1, .int (nI z2), .int (nI z3), .int 4, .int (-1), .ref z6, .ref z7, .ref z8, .ref z9, .int (nI z10), .ref z11, .ref z12, .ref z13, .ref z14, .ref z15, .int (nI z16), .ref z17, .int z18, .ref z19]))] ++ va_pl L M) H_25 := hP
      have hD : va_D A ([(za, .inr (13, [.int 0, .ref z1, .int (nI z2), .int (nI z3), .int 4, .int (-1), .ref z6, .ref z7, .ref z8, .ref z9, .int (nI z10), .ref z11, .ref z12, .ref z13, .ref z14, .ref z15, .int (nI z16), .ref z17, .int z18, .ref z19]))] ++ va_pl L M) := hD
      have hq := Eq.symm hp_28
      subst hq
      rw [hQ]
      exact W.iret (v := (-1)) hx hb hr (fun t ht hW9 => ⟨⟨(-1), M, rfl, ⟨hW, hF, trivial⟩, ⟨4, (-1), by rw [ht]; exact hP, hD⟩⟩, hS.F ht⟩) hS.2.2 dX13_leave_48
    · have hz := rfl (a := 0)
      refine lv_istore (lv' := [(7, .int (nI j_22)), (6, .ref b13), (0, .ref za), (1, .int k1), (2, .int (nI j_16)), (3, .int k3), (4, .int k4), (5, .int k5)]) hx hb dX13_leave_35 hl (by decide) rfl (fun ls hl => ?_)
      refine lv_iload hx hb dX13_leave_37 (lv_at hl 0 rfl) ?_
      refine lv_iconst (v := (-1)) hx hb dX13_leave_39 (by decide) ?_
      refine lv_icmp_ne (tgt := 49) hx hb dX13_leave_40 (by decide) (fun _ => ?_) (fun c_29 => absurd c_29 (nI_ne_m1 (by omega)))
      refine lv_iload hx hb dX13_leave_49 (lv_at hl 6 rfl) ?_
      refine lv_iconst (v := 1) hx hb dX13_leave_51 (by decide) ?_
      refine lv_icmp_lt (tgt := 73) hx hb dX13_leave_52 (by decide) (fun c_30 => ?_) (fun c_30 => ?_)
      · have hz := rfl (a := 0)
        refine lv_aload_n hx hb dX13_leave_73 rfl (lv_at hl 2 rfl) ?_
        refine lv_iconst (v := 2) hx hb dX13_leave_74 (by decide) ?_
        have hPc := hP.sub (ws' := [(za, .inr (13, [.int 0, .ref z1, .int (nI z2), .int (nI z3), .int z4, .int z5, .ref z6, .ref z7, .ref z8, .ref z9, .int (nI z10), .ref z11, .ref z12, .ref z13, .ref z14, .ref z15, .int (nI z16), .ref z17, .int z18, .ref z19]))]) [0] rfl
        have hDc := hD.sub (ws' := [(za, .inr (13, [.int 0, .ref z1, .int (nI z2), .int (nI z3), .int z4, .int z5, .ref z6, .ref z7, .ref z8, .ref z9, .int (nI z10), .ref z11, .ref z12, .ref z13, .ref z14, .ref z15, .int (nI z16), .ref z17, .int z18, .ref z19]))]) [0] (by decide) rfl
        have hKc := hK.sub (tys' := []) [] rfl
        have hFc := va_free (wc := [(za, .inr (13, [.int 0, .ref z1, .int (nI z2), .int (nI z3), .int z4, .int z5, .ref z6, .ref z7, .ref z8, .ref z9, .int (nI z10), .ref z11, .ref z12, .ref z13, .ref z14, .ref z15, .int (nI z16), .ref z17, .int z18, .ref z19]))]) hD hS hA [0] rfl
        refine va_calli (va_runV (As := [.int 2]) (rest := []) ⟨hx, hb, hml, hown, hg⟩ (m_refused l D H_18.size za 0 z1 (nI z2) (nI z3) z4 z5 z6 z7 z8 z9 (nI z10) z11 z12 z13 z14 z15 (nI z16) z17 z18 z19 2) (cwV 1 hg (gV wd_725 wd_726 wd_727 wd_717 wd_728) rfl rfl rfl (by decide +kernel) ⟨(Nat.le_trans (Nat.le_of_ble_eq_true rfl) hRf), (Nat.le_trans (Nat.le_of_ble_eq_true rfl) hRl)⟩) ⟨Pr.blind, va_recv hK hP (ci := 13) (q0 := 0) rfl rfl, fun U hU hW => ⟨rfl, Pr.at hPc hKc hDc hN hU hW⟩⟩ rfl rfl hl.1 rfl (lv_room (Nat.le_of_ble_eq_true rfl)) dX13_leave_75 ⟨(Nat.le_trans (Nat.le_of_ble_eq_true rfl) hRc), (Nat.le_trans (Nat.le_of_ble_eq_true rfl) hRs)⟩) hS (fun q _ h => hFc q h) hFc (fun r_32 M_33 t H_31 locs ht hvm hw hB hz1 hk1 hS => ?_)
        have hp_34 := hw
        obtain ⟨hP1, hK1, hD1⟩ := hB
        rw [ht] at hP1
        obtain ⟨hP, hD⟩ := va_joinQ (X := [(za, .inr (13, [.int 0, .ref z1, .int (nI z2), .int (nI z3), .int z4, .int z5, .ref z6, .ref z7, .ref z8, .ref z9, .int (nI z10), .ref z11, .ref z12, .ref z13, .ref z14, .ref z15, .int (nI z16), .ref z17, .int z18, .ref z19]))]) (cx := [(za, .inr (13, [.int 0, .ref z1, .int (nI z2), .int (nI z3), .int z4, .int z5, .ref z6, .ref z7, .ref z8, .ref z9, .int (nI z10), .ref z11, .ref z12, .ref z13, .ref z14, .ref z15, .int (nI z16), .ref z17, .int z18, .ref z19]))]) (wr := []) (w1 := [(za, .inr (13, [.int 0, .ref z1, .int (nI z2), .int (nI z3), .int 2, .int (-1), .ref z6, .ref z7, .ref z8, .ref z9, .int (nI z10), .ref z11, .ref z12, .ref z13, .ref z14, .ref z15, .int (nI z16), .ref z17, .int z18, .ref z19]))]) (pl := va_pl L M) hP hD [0] [] rfl rfl (by decide) (by decide) hk1 hFc hP1 hD1
        have hP : va_P D vwCl ([(za, .inr (13, [.int 0, .ref z1, .int (nI z2), .int (nI z3), .int 2, .int (-1), .ref z6, .ref z7, .ref z8, .ref z9, .int (nI z10), .ref z11, .ref z12, .ref z13, .ref z14, .ref z15, .int (nI z16), .ref z17, .int z18, .ref z19]))] ++ va_pl L M) H_31 := hP
        have hD : va_D A ([(za, .inr (13, [.int 0, .ref z1, .int (nI z2), .int (nI z3), .int 2, .int (-1), .ref z6, .ref z7, .ref z8, .ref z9, .int (nI z10), .ref z11, .ref z12, .ref z13, .ref z14, .ref z15, .int (nI z16), .ref z17, .int z18, .ref z19]))] ++ va_pl L M) := hD
        have hq := Eq.symm hp_34
        subst hq
        rw [hQ]
        exact W.iret (v := (-1)) hx hb hr (fun t ht hW9 => ⟨⟨(-1), M, rfl, ⟨hW, hF, trivial⟩, ⟨2, (-1), by rw [ht]; exact hP, hD⟩⟩, hS.F ht⟩) hS.2.2 dX13_leave_78
      · have hz := rfl (a := 0)
        refine lv_iload hx hb dX13_leave_55 (lv_at hl 6 rfl) ?_
        refine lv_bipush (v := 10) hx hb dX13_leave_57 (by decide) ?_
        refine lv_icmp_gt (tgt := 73) hx hb dX13_leave_59 (by decide) (fun c_35 => ?_) (fun c_35 => ?_)
        · have hz := rfl (a := 0)
          have n_36 : ¬ k4 < 0 := gtN (c := 10) (by omega) c_35
          refine lv_aload_n hx hb dX13_leave_73 rfl (lv_at hl 2 rfl) ?_
          refine lv_iconst (v := 2) hx hb dX13_leave_74 (by decide) ?_
          have hPc := hP.sub (ws' := [(za, .inr (13, [.int 0, .ref z1, .int (nI z2), .int (nI z3), .int z4, .int z5, .ref z6, .ref z7, .ref z8, .ref z9, .int (nI z10), .ref z11, .ref z12, .ref z13, .ref z14, .ref z15, .int (nI z16), .ref z17, .int z18, .ref z19]))]) [0] rfl
          have hDc := hD.sub (ws' := [(za, .inr (13, [.int 0, .ref z1, .int (nI z2), .int (nI z3), .int z4, .int z5, .ref z6, .ref z7, .ref z8, .ref z9, .int (nI z10), .ref z11, .ref z12, .ref z13, .ref z14, .ref z15, .int (nI z16), .ref z17, .int z18, .ref z19]))]) [0] (by decide) rfl
          have hKc := hK.sub (tys' := []) [] rfl
          have hFc := va_free (wc := [(za, .inr (13, [.int 0, .ref z1, .int (nI z2), .int (nI z3), .int z4, .int z5, .ref z6, .ref z7, .ref z8, .ref z9, .int (nI z10), .ref z11, .ref z12, .ref z13, .ref z14, .ref z15, .int (nI z16), .ref z17, .int z18, .ref z19]))]) hD hS hA [0] rfl
          refine va_calli (va_runV (As := [.int 2]) (rest := []) ⟨hx, hb, hml, hown, hg⟩ (m_refused l D H_18.size za 0 z1 (nI z2) (nI z3) z4 z5 z6 z7 z8 z9 (nI z10) z11 z12 z13 z14 z15 (nI z16) z17 z18 z19 2) (cwV 1 hg (gV wd_725 wd_726 wd_727 wd_717 wd_728) rfl rfl rfl (by decide +kernel) ⟨(Nat.le_trans (Nat.le_of_ble_eq_true rfl) hRf), (Nat.le_trans (Nat.le_of_ble_eq_true rfl) hRl)⟩) ⟨Pr.blind, va_recv hK hP (ci := 13) (q0 := 0) rfl rfl, fun U hU hW => ⟨rfl, Pr.at hPc hKc hDc hN hU hW⟩⟩ rfl rfl hl.1 rfl (lv_room (Nat.le_of_ble_eq_true rfl)) dX13_leave_75 ⟨(Nat.le_trans (Nat.le_of_ble_eq_true rfl) hRc), (Nat.le_trans (Nat.le_of_ble_eq_true rfl) hRs)⟩) hS (fun q _ h => hFc q h) hFc (fun r_38 M_39 t H_37 locs ht hvm hw hB hz1 hk1 hS => ?_)
          have hp_40 := hw
          obtain ⟨hP1, hK1, hD1⟩ := hB
          rw [ht] at hP1
          obtain ⟨hP, hD⟩ := va_joinQ (X := [(za, .inr (13, [.int 0, .ref z1, .int (nI z2), .int (nI z3), .int z4, .int z5, .ref z6, .ref z7, .ref z8, .ref z9, .int (nI z10), .ref z11, .ref z12, .ref z13, .ref z14, .ref z15, .int (nI z16), .ref z17, .int z18, .ref z19]))]) (cx := [(za, .inr (13, [.int 0, .ref z1, .int (nI z2), .int (nI z3), .int z4, .int z5, .ref z6, .ref z7, .ref z8, .ref z9, .int (nI z10), .ref z11, .ref z12, .ref z13, .ref z14, .ref z15, .int (nI z16), .ref z17, .int z18, .ref z19]))]) (wr := []) (w1 := [(za, .inr (13, [.int 0, .ref z1, .int (nI z2), .int (nI z3), .int 2, .int (-1), .ref z6, .ref z7, .ref z8, .ref z9, .int (nI z10), .ref z11, .ref z12, .ref z13, .ref z14, .ref z15, .int (nI z16), .ref z17, .int z18, .ref z19]))]) (pl := va_pl L M) hP hD [0] [] rfl rfl (by decide) (by decide) hk1 hFc hP1 hD1
          have hP : va_P D vwCl ([(za, .inr (13, [.int 0, .ref z1, .int (nI z2), .int (nI z3), .int 2, .int (-1), .ref z6, .ref z7, .ref z8, .ref z9, .int (nI z10), .ref z11, .ref z12, .ref z13, .ref z14, .ref z15, .int (nI z16), .ref z17, .int z18, .ref z19]))] ++ va_pl L M) H_37 := hP
          have hD : va_D A ([(za, .inr (13, [.int 0, .ref z1, .int (nI z2), .int (nI z3), .int 2, .int (-1), .ref z6, .ref z7, .ref z8, .ref z9, .int (nI z10), .ref z11, .ref z12, .ref z13, .ref z14, .ref z15, .int (nI z16), .ref z17, .int z18, .ref z19]))] ++ va_pl L M) := hD
          have hq := Eq.symm hp_40
          subst hq
          rw [hQ]
          exact W.iret (v := (-1)) hx hb hr (fun t ht hW9 => ⟨⟨(-1), M, rfl, ⟨hW, hF, trivial⟩, ⟨2, (-1), by rw [ht]; exact hP, hD⟩⟩, hS.F ht⟩) hS.2.2 dX13_leave_78
        · have hz := rfl (a := 0)
          refine lv_iload hx hb dX13_leave_62 (lv_at hl 7 rfl) ?_
          refine lv_if_lt (tgt := 73) hx hb dX13_leave_64 (by decide) (fun c_41 => ?_) (fun c_41 => ?_)
          · have hz := rfl (a := 0)
            refine lv_aload_n hx hb dX13_leave_73 rfl (lv_at hl 2 rfl) ?_
            refine lv_iconst (v := 2) hx hb dX13_leave_74 (by decide) ?_
            have hPc := hP.sub (ws' := [(za, .inr (13, [.int 0, .ref z1, .int (nI z2), .int (nI z3), .int z4, .int z5, .ref z6, .ref z7, .ref z8, .ref z9, .int (nI z10), .ref z11, .ref z12, .ref z13, .ref z14, .ref z15, .int (nI z16), .ref z17, .int z18, .ref z19]))]) [0] rfl
            have hDc := hD.sub (ws' := [(za, .inr (13, [.int 0, .ref z1, .int (nI z2), .int (nI z3), .int z4, .int z5, .ref z6, .ref z7, .ref z8, .ref z9, .int (nI z10), .ref z11, .ref z12, .ref z13, .ref z14, .ref z15, .int (nI z16), .ref z17, .int z18, .ref z19]))]) [0] (by decide) rfl
            have hKc := hK.sub (tys' := []) [] rfl
            have hFc := va_free (wc := [(za, .inr (13, [.int 0, .ref z1, .int (nI z2), .int (nI z3), .int z4, .int z5, .ref z6, .ref z7, .ref z8, .ref z9, .int (nI z10), .ref z11, .ref z12, .ref z13, .ref z14, .ref z15, .int (nI z16), .ref z17, .int z18, .ref z19]))]) hD hS hA [0] rfl
            refine va_calli (va_runV (As := [.int 2]) (rest := []) ⟨hx, hb, hml, hown, hg⟩ (m_refused l D H_18.size za 0 z1 (nI z2) (nI z3) z4 z5 z6 z7 z8 z9 (nI z10) z11 z12 z13 z14 z15 (nI z16) z17 z18 z19 2) (cwV 1 hg (gV wd_725 wd_726 wd_727 wd_717 wd_728) rfl rfl rfl (by decide +kernel) ⟨(Nat.le_trans (Nat.le_of_ble_eq_true rfl) hRf), (Nat.le_trans (Nat.le_of_ble_eq_true rfl) hRl)⟩) ⟨Pr.blind, va_recv hK hP (ci := 13) (q0 := 0) rfl rfl, fun U hU hW => ⟨rfl, Pr.at hPc hKc hDc hN hU hW⟩⟩ rfl rfl hl.1 rfl (lv_room (Nat.le_of_ble_eq_true rfl)) dX13_leave_75 ⟨(Nat.le_trans (Nat.le_of_ble_eq_true rfl) hRc), (Nat.le_trans (Nat.le_of_ble_eq_true rfl) hRs)⟩) hS (fun q _ h => hFc q h) hFc (fun r_43 M_44 t H_42 locs ht hvm hw hB hz1 hk1 hS => ?_)
            have hp_45 := hw
            obtain ⟨hP1, hK1, hD1⟩ := hB
            rw [ht] at hP1
            obtain ⟨hP, hD⟩ := va_joinQ (X := [(za, .inr (13, [.int 0, .ref z1, .int (nI z2), .int (nI z3), .int z4, .int z5, .ref z6, .ref z7, .ref z8, .ref z9, .int (nI z10), .ref z11, .ref z12, .ref z13, .ref z14, .ref z15, .int (nI z16), .ref z17, .int z18, .ref z19]))]) (cx := [(za, .inr (13, [.int 0, .ref z1, .int (nI z2), .int (nI z3), .int z4, .int z5, .ref z6, .ref z7, .ref z8, .ref z9, .int (nI z10), .ref z11, .ref z12, .ref z13, .ref z14, .ref z15, .int (nI z16), .ref z17, .int z18, .ref z19]))]) (wr := []) (w1 := [(za, .inr (13, [.int 0, .ref z1, .int (nI z2), .int (nI z3), .int 2, .int (-1), .ref z6, .ref z7, .ref z8, .ref z9, .int (nI z10), .ref z11, .ref z12, .ref z13, .ref z14, .ref z15, .int (nI z16), .ref z17, .int z18, .ref z19]))]) (pl := va_pl L M) hP hD [0] [] rfl rfl (by decide) (by decide) hk1 hFc hP1 hD1
            have hP : va_P D vwCl ([(za, .inr (13, [.int 0, .ref z1, .int (nI z2), .int (nI z3), .int 2, .int (-1), .ref z6, .ref z7, .ref z8, .ref z9, .int (nI z10), .ref z11, .ref z12, .ref z13, .ref z14, .ref z15, .int (nI z16), .ref z17, .int z18, .ref z19]))] ++ va_pl L M) H_42 := hP
            have hD : va_D A ([(za, .inr (13, [.int 0, .ref z1, .int (nI z2), .int (nI z3), .int 2, .int (-1), .ref z6, .ref z7, .ref z8, .ref z9, .int (nI z10), .ref z11, .ref z12, .ref z13, .ref z14, .ref z15, .int (nI z16), .ref z17, .int z18, .ref z19]))] ++ va_pl L M) := hD
            have hq := Eq.symm hp_45
            subst hq
            rw [hQ]
            exact W.iret (v := (-1)) hx hb hr (fun t ht hW9 => ⟨⟨(-1), M, rfl, ⟨hW, hF, trivial⟩, ⟨2, (-1), by rw [ht]; exact hP, hD⟩⟩, hS.F ht⟩) hS.2.2 dX13_leave_78
          · have hz := rfl (a := 0)
            refine lv_iload hx hb dX13_leave_67 (lv_at hl 7 rfl) ?_
            refine lv_iconst (v := 5) hx hb dX13_leave_69 (by decide) ?_
            refine lv_icmp_le (tgt := 79) hx hb dX13_leave_70 (by decide) (fun c_46 => ?_) (fun c_46 => ?_)
            · have hz := rfl (a := 0)
              refine lv_aload hx hb dX13_leave_79 (lv_at hl 1 rfl) ?_
              refine lv_iload_n hx hb dX13_leave_81 rfl (lv_at hl 5 rfl) ?_
              obtain ⟨fs47, hM47, hn47, hl47⟩ := hW.open_12 hb_15
              have hPc : va_P D vwCl ([] ++ va_pl L M) H_18 := hP.part (cx := []) [] rfl
              have hDc : va_D A ([] ++ va_pl L M) := hD.part (cx := []) [] (by decide) rfl
              have hFc : ∀ q, va_A ([] ++ va_pl L M) H_18.size q → A q := pg_free hDc hS hA
              refine va_calli (va_runV (As := [.int k3]) (rest := []) ⟨hx, hb, hml, hown, hg⟩ (r_X12_isFree l D cy K L M H_18.size b13 k3  hW hb_15) (cwV 1 hg (gV wd_807 wd_808 wd_809 wd_737 wd_810) rfl rfl rfl (by decide +kernel) ⟨(Nat.le_trans (Nat.le_of_ble_eq_true rfl) hRf), (Nat.le_trans (Nat.le_of_ble_eq_true rfl) hRl)⟩) ⟨PG.blind, pg_recv hK hP hb_15.1 hM47 rfl, fun U hU hW => ⟨rfl, PG.at hPc hK hDc hN hU hW⟩⟩ rfl rfl hl.1 rfl (lv_room (Nat.le_of_ble_eq_true rfl)) dX13_leave_82 ⟨(Nat.le_trans (Nat.le_of_ble_eq_true rfl) hRc), (Nat.le_trans (Nat.le_of_ble_eq_true rfl) hRs)⟩) hS (fun q _ h => hFc q h) hFc (fun r_49 M_50 t H_48 locs ht hvm hw hB hz1 hk1 hS => ?_)
              have hp_51 := hw
              obtain ⟨hP1, hD1⟩ := hB
              rw [ht] at hP1
              obtain ⟨hP, hD⟩ := va_joinP (X := [(za, .inr (13, [.int 0, .ref z1, .int (nI z2), .int (nI z3), .int z4, .int z5, .ref z6, .ref z7, .ref z8, .ref z9, .int (nI z10), .ref z11, .ref z12, .ref z13, .ref z14, .ref z15, .int (nI z16), .ref z17, .int z18, .ref z19]))]) (cx := []) (wr := [(za, .inr (13, [.int 0, .ref z1, .int (nI z2), .int (nI z3), .int z4, .int z5, .ref z6, .ref z7, .ref z8, .ref z9, .int (nI z10), .ref z11, .ref z12, .ref z13, .ref z14, .ref z15, .int (nI z16), .ref z17, .int z18, .ref z19]))]) (rx := []) (pl := va_pl L M) (pl1 := va_pl L M) hP hD [] [0] rfl rfl (by decide) (by decide) hk1 hFc hP1 hD1
              have hP : va_P D vwCl ([(za, .inr (13, [.int 0, .ref z1, .int (nI z2), .int (nI z3), .int z4, .int z5, .ref z6, .ref z7, .ref z8, .ref z9, .int (nI z10), .ref z11, .ref z12, .ref z13, .ref z14, .ref z15, .int (nI z16), .ref z17, .int z18, .ref z19]))] ++ va_pl L M) H_48 := hP
              have hD : va_D A ([(za, .inr (13, [.int 0, .ref z1, .int (nI z2), .int (nI z3), .int z4, .int z5, .ref z6, .ref z7, .ref z8, .ref z9, .int (nI z10), .ref z11, .ref z12, .ref z13, .ref z14, .ref z15, .int (nI z16), .ref z17, .int z18, .ref z19]))] ++ va_pl L M) := hD
              rcases hp_51 with ⟨rfl, c_52, c_53⟩ | rfl
              · have hz := rfl (a := 0)
                refine lv_if_eq (tgt := 100) hx hb dX13_leave_85 (by decide) (fun c_54 => absurd c_54 (by decide)) (fun _ => ?_)
                refine lv_iload_n hx hb dX13_leave_88 rfl (lv_at hl 5 rfl) ?_
                refine lv_aload hx hb dX13_leave_89 (lv_at hl 1 rfl) ?_
                obtain ⟨v55, hv55, hc55⟩ : ∃ v : Nat, fs47[21]? = some (.ref v : Value) ∧ isk K L v 75 24 := hl47 21 (by decide)
                refine pg_getN (D := D) (ci := 12) (v := .ref v55) (C := RX12) (T := TX12) (N := 51) hx hb hg inG12 hown hK hP hb_15.1 hM47 rfl 21 (by decide) (hN.use (Cond.fieldLinkNest RX13 112 RX12 "begin" "[I" RX13) 30 rfl rfl) (fun _ h9 => h9) hv55 dX13_leave_91 ?_
                refine lv_iload hx hb dX13_leave_94 (lv_at hl 0 rfl) ?_
                obtain ⟨f56, hM56⟩ := hW.open_75 hc55
                refine pg_iald hx hb hK hP hc55.1 0 hM56 rfl (inbN j_22 24 (by omega) (by omega)) dX13_leave_96 ?_
                refine lv_topi (fun f_57 ef_57 => ?_)
                refine lv_icmp_gt (tgt := 106) hx hb dX13_leave_97 (by decide) (fun c_58 => ?_) (fun c_58 => ?_)
                · have hz := rfl (a := 0)
                  refine lv_aload hx hb dX13_leave_106 (lv_at hl 1 rfl) ?_
                  obtain ⟨v59, hv59, hc59⟩ : ∃ v : Nat, fs47[22]? = some (.ref v : Value) ∧ isk K L v 41 24 := hl47 22 (by decide)
                  refine pg_getN (D := D) (ci := 12) (v := .ref v59) (C := RX12) (T := TX12) (N := 51) hx hb hg inG12 hown hK hP hb_15.1 hM47 rfl 22 (by decide) (hN.use (Cond.fieldLinkNest RX13 95 RX12 "ended" "[I" RX13) 31 rfl rfl) (fun _ h9 => h9) hv59 dX13_leave_108 ?_
                  refine lv_iload hx hb dX13_leave_111 (lv_at hl 0 rfl) ?_
                  refine lv_iload_n hx hb dX13_leave_113 rfl (lv_at hl 5 rfl) ?_
                  obtain ⟨f60, hM60⟩ := hW.open_41 hc59
                  refine pg_iast hx hb hK hP hD hS hc59.1 0 hM60 rfl (inbN j_22 24 (by omega) (by omega)) dX13_leave_114 (fun H_61 locs hP hD hS => ?_)
                  obtain ⟨M_62, eM_62⟩ : ∃ M1 : Hp, M1 = va_up M v59 (.inl (cy 14, 24, .inl (upd f60 ((nI j_22) : Int32).toNatClampNeg k3))) := ⟨_, rfl⟩
                  have hP : va_P D vwCl ([(za, .inr (13, [.int 0, .ref z1, .int (nI z2), .int (nI z3), .int z4, .int z5, .ref z6, .ref z7, .ref z8, .ref z9, .int (nI z10), .ref z11, .ref z12, .ref z13, .ref z14, .ref z15, .int (nI z16), .ref z17, .int z18, .ref z19]))] ++ va_pl L M_62) H_61 := by rw [eM_62]; exact hP
                  have hD : va_D A ([(za, .inr (13, [.int 0, .ref z1, .int (nI z2), .int (nI z3), .int z4, .int z5, .ref z6, .ref z7, .ref z8, .ref z9, .int (nI z10), .ref z11, .ref z12, .ref z13, .ref z14, .ref z15, .int (nI z16), .ref z17, .int z18, .ref z19]))] ++ va_pl L M_62) := by rw [eM_62]; exact hD
                  have hW : WOM cy K L M_62 := by rw [eM_62]; exact hW.up_41 hc59 ⟨_, rfl⟩
                  have hF : fr K L [14, 41, 42, 76] M M_62 := by rw [eM_62]; exact hF.up hc59 (by decide)
                  have hM_63 : M_62 v59 = .inl (cy 14, 24, .inl (upd f60 ((nI j_22) : Int32).toNatClampNeg k3)) := by rw [eM_62]; exact va_up_self _ _ _
                  have hM_64 : M_62 z1 = .inl (cy 23, 8, .inr (.inr (.inr (.inr (f11))))) := by rw [eM_62, va_up_ne _ _ (i1.neT hc59 (by decide))]; exact hM11
                  have hM_65 : M_62 b13 = .inr (12, fs47) := by rw [eM_62, va_up_ne _ _ (hb_15.neT hc59 (by decide))]; exact hM47
                  have hM_66 : M_62 v55 = .inl (cy 14, 24, .inl (f56)) := by rw [eM_62, va_up_ne _ _ (hc55.neT hc59 (by decide))]; exact hM56
                  obtain ⟨f_67, ef_67⟩ : ∃ f : Nat → Int32, f = upd f60 ((nI j_22) : Int32).toNatClampNeg k3 := ⟨_, rfl⟩
                  rw [← ef_67] at hM_63
                  clear ef_67
                  refine lv_aload hx hb dX13_leave_115 (lv_at hl 1 rfl) ?_
                  obtain ⟨v68, hv68, hc68⟩ : ∃ v : Nat, fs47[23]? = some (.ref v : Value) ∧ isk K L v 42 24 := hl47 23 (by decide)
                  refine pg_getN (D := D) (ci := 12) (v := .ref v68) (C := RX12) (T := TX12) (N := 51) hx hb hg inG12 hown hK hP hb_15.1 hM_65 rfl 23 (by decide) (hN.use (Cond.fieldLinkNest RX13 115 RX12 "instalments" "[I" RX13) 32 rfl rfl) (fun _ h9 => h9) hv68 dX13_leave_117 ?_
                  refine lv_iload hx hb dX13_leave_120 (lv_at hl 0 rfl) ?_
                  refine lv_iload hx hb dX13_leave_122 (lv_at hl 6 rfl) ?_
                  obtain ⟨f69, hM69⟩ := hW.open_42 hc68
                  refine pg_iast hx hb hK hP hD hS hc68.1 0 hM69 rfl (inbN j_22 24 (by omega) (by omega)) dX13_leave_124 (fun H_70 locs hP hD hS => ?_)
                  obtain ⟨M_71, eM_71⟩ : ∃ M1 : Hp, M1 = va_up M_62 v68 (.inl (cy 14, 24, .inl (upd f69 ((nI j_22) : Int32).toNatClampNeg k4))) := ⟨_, rfl⟩
                  have hP : va_P D vwCl ([(za, .inr (13, [.int 0, .ref z1, .int (nI z2), .int (nI z3), .int z4, .int z5, .ref z6, .ref z7, .ref z8, .ref z9, .int (nI z10), .ref z11, .ref z12, .ref z13, .ref z14, .ref z15, .int (nI z16), .ref z17, .int z18, .ref z19]))] ++ va_pl L M_71) H_70 := by rw [eM_71]; exact hP
                  have hD : va_D A ([(za, .inr (13, [.int 0, .ref z1, .int (nI z2), .int (nI z3), .int z4, .int z5, .ref z6, .ref z7, .ref z8, .ref z9, .int (nI z10), .ref z11, .ref z12, .ref z13, .ref z14, .ref z15, .int (nI z16), .ref z17, .int z18, .ref z19]))] ++ va_pl L M_71) := by rw [eM_71]; exact hD
                  have hW : WOM cy K L M_71 := by rw [eM_71]; exact hW.up_42 hc68 ⟨_, rfl⟩
                  have hF : fr K L [14, 41, 42, 76] M M_71 := by rw [eM_71]; exact hF.up hc68 (by decide)
                  have hM_72 : M_71 v68 = .inl (cy 14, 24, .inl (upd f69 ((nI j_22) : Int32).toNatClampNeg k4)) := by rw [eM_71]; exact va_up_self _ _ _
                  have hM_73 : M_71 v59 = .inl (cy 14, 24, .inl (f_67)) := by rw [eM_71, va_up_ne _ _ (hc59.neT hc68 (by decide))]; exact hM_63
                  have hM_74 : M_71 z1 = .inl (cy 23, 8, .inr (.inr (.inr (.inr (f11))))) := by rw [eM_71, va_up_ne _ _ (i1.neT hc68 (by decide))]; exact hM_64
                  have hM_75 : M_71 b13 = .inr (12, fs47) := by rw [eM_71, va_up_ne _ _ (hb_15.neT hc68 (by decide))]; exact hM_65
                  have hM_76 : M_71 v55 = .inl (cy 14, 24, .inl (f56)) := by rw [eM_71, va_up_ne _ _ (hc55.neT hc68 (by decide))]; exact hM_66
                  obtain ⟨f_77, ef_77⟩ : ∃ f : Nat → Int32, f = upd f69 ((nI j_22) : Int32).toNatClampNeg k4 := ⟨_, rfl⟩
                  rw [← ef_77] at hM_72
                  clear ef_77
                  refine lv_aload hx hb dX13_leave_125 (lv_at hl 1 rfl) ?_
                  obtain ⟨v78, hv78, hc78⟩ : ∃ v : Nat, fs47[24]? = some (.ref v : Value) ∧ isk K L v 76 24 := hl47 24 (by decide)
                  refine pg_getN (D := D) (ci := 12) (v := .ref v78) (C := RX12) (T := TX12) (N := 51) hx hb hg inG12 hown hK hP hb_15.1 hM_75 rfl 24 (by decide) (hN.use (Cond.fieldLinkNest RX13 118 RX12 "bears" "[I" RX13) 33 rfl rfl) (fun _ h9 => h9) hv78 dX13_leave_127 ?_
                  refine lv_iload hx hb dX13_leave_130 (lv_at hl 0 rfl) ?_
                  refine lv_iload hx hb dX13_leave_132 (lv_at hl 7 rfl) ?_
                  obtain ⟨f79, hM79⟩ := hW.open_76 hc78
                  refine pg_iast hx hb hK hP hD hS hc78.1 0 hM79 rfl (inbN j_22 24 (by omega) (by omega)) dX13_leave_134 (fun H_80 locs hP hD hS => ?_)
                  obtain ⟨M_81, eM_81⟩ : ∃ M1 : Hp, M1 = va_up M_71 v78 (.inl (cy 14, 24, .inl (upd f79 ((nI j_22) : Int32).toNatClampNeg k5))) := ⟨_, rfl⟩
                  have hP : va_P D vwCl ([(za, .inr (13, [.int 0, .ref z1, .int (nI z2), .int (nI z3), .int z4, .int z5, .ref z6, .ref z7, .ref z8, .ref z9, .int (nI z10), .ref z11, .ref z12, .ref z13, .ref z14, .ref z15, .int (nI z16), .ref z17, .int z18, .ref z19]))] ++ va_pl L M_81) H_80 := by rw [eM_81]; exact hP
                  have hD : va_D A ([(za, .inr (13, [.int 0, .ref z1, .int (nI z2), .int (nI z3), .int z4, .int z5, .ref z6, .ref z7, .ref z8, .ref z9, .int (nI z10), .ref z11, .ref z12, .ref z13, .ref z14, .ref z15, .int (nI z16), .ref z17, .int z18, .ref z19]))] ++ va_pl L M_81) := by rw [eM_81]; exact hD
                  have hW : WOM cy K L M_81 := by rw [eM_81]; exact hW.up_76 hc78 ⟨_, rfl⟩
                  have hF : fr K L [14, 41, 42, 76] M M_81 := by rw [eM_81]; exact hF.up hc78 (by decide)
                  have hM_82 : M_81 v78 = .inl (cy 14, 24, .inl (upd f79 ((nI j_22) : Int32).toNatClampNeg k5)) := by rw [eM_81]; exact va_up_self _ _ _
                  have hM_83 : M_81 v68 = .inl (cy 14, 24, .inl (f_77)) := by rw [eM_81, va_up_ne _ _ (hc68.neT hc78 (by decide))]; exact hM_72
                  have hM_84 : M_81 v59 = .inl (cy 14, 24, .inl (f_67)) := by rw [eM_81, va_up_ne _ _ (hc59.neT hc78 (by decide))]; exact hM_73
                  have hM_85 : M_81 z1 = .inl (cy 23, 8, .inr (.inr (.inr (.inr (f11))))) := by rw [eM_81, va_up_ne _ _ (i1.neT hc78 (by decide))]; exact hM_74
                  have hM_86 : M_81 b13 = .inr (12, fs47) := by rw [eM_81, va_up_ne _ _ (hb_15.neT hc78 (by decide))]; exact hM_75
                  have hM_87 : M_81 v55 = .inl (cy 14, 24, .inl (f56)) := by rw [eM_81, va_up_ne _ _ (hc55.neT hc78 (by decide))]; exact hM_76
                  obtain ⟨f_88, ef_88⟩ : ∃ f : Nat → Int32, f = upd f79 ((nI j_22) : Int32).toNatClampNeg k5 := ⟨_, rfl⟩
                  rw [← ef_88] at hM_82
                  clear ef_88
                  refine lv_aload_n hx hb dX13_leave_135 rfl (lv_at hl 2 rfl) ?_
                  refine lv_iload hx hb dX13_leave_136 (lv_at hl 0 rfl) ?_
                  have hPc := hP.sub (ws' := [(za, .inr (13, [.int 0, .ref z1, .int (nI z2), .int (nI z3), .int z4, .int z5, .ref z6, .ref z7, .ref z8, .ref z9, .int (nI z10), .ref z11, .ref z12, .ref z13, .ref z14, .ref z15, .int (nI z16), .ref z17, .int z18, .ref z19]))]) [0] rfl
                  have hDc := hD.sub (ws' := [(za, .inr (13, [.int 0, .ref z1, .int (nI z2), .int (nI z3), .int z4, .int z5, .ref z6, .ref z7, .ref z8, .ref z9, .int (nI z10), .ref z11, .ref z12, .ref z13, .ref z14, .ref z15, .int (nI z16), .ref z17, .int z18, .ref z19]))]) [0] (by decide) rfl
                  have hKc := hK.sub (tys' := []) [] rfl
                  have hFc := va_free (wc := [(za, .inr (13, [.int 0, .ref z1, .int (nI z2), .int (nI z3), .int z4, .int z5, .ref z6, .ref z7, .ref z8, .ref z9, .int (nI z10), .ref z11, .ref z12, .ref z13, .ref z14, .ref z15, .int (nI z16), .ref z17, .int z18, .ref z19]))]) hD hS hA [0] rfl
                  refine va_calli (va_runV (As := [.int (nI j_22)]) (rest := []) ⟨hx, hb, hml, hown, hg⟩ (m_done l D H_80.size za 0 z1 (nI z2) (nI z3) z4 z5 z6 z7 z8 z9 (nI z10) z11 z12 z13 z14 z15 (nI z16) z17 z18 z19 (nI j_22)) (cwV 1 hg (gV wd_730 wd_731 wd_732 wd_717 wd_733) rfl rfl rfl (by decide +kernel) ⟨(Nat.le_trans (Nat.le_of_ble_eq_true rfl) hRf), (Nat.le_trans (Nat.le_of_ble_eq_true rfl) hRl)⟩) ⟨Pr.blind, va_recv hK hP (ci := 13) (q0 := 0) rfl rfl, fun U hU hW => ⟨rfl, Pr.at hPc hKc hDc hN hU hW⟩⟩ rfl rfl hl.1 rfl (lv_room (Nat.le_of_ble_eq_true rfl)) dX13_leave_138 ⟨(Nat.le_trans (Nat.le_of_ble_eq_true rfl) hRc), (Nat.le_trans (Nat.le_of_ble_eq_true rfl) hRs)⟩) hS (fun q _ h => hFc q h) hFc (fun r_90 M_91 t H_89 locs ht hvm hw hB hz1 hk1 hS => ?_)
                  have hp_92 := hw
                  obtain ⟨hP1, hK1, hD1⟩ := hB
                  rw [ht] at hP1
                  obtain ⟨hP, hD⟩ := va_joinQ (X := [(za, .inr (13, [.int 0, .ref z1, .int (nI z2), .int (nI z3), .int z4, .int z5, .ref z6, .ref z7, .ref z8, .ref z9, .int (nI z10), .ref z11, .ref z12, .ref z13, .ref z14, .ref z15, .int (nI z16), .ref z17, .int z18, .ref z19]))]) (cx := [(za, .inr (13, [.int 0, .ref z1, .int (nI z2), .int (nI z3), .int z4, .int z5, .ref z6, .ref z7, .ref z8, .ref z9, .int (nI z10), .ref z11, .ref z12, .ref z13, .ref z14, .ref z15, .int (nI z16), .ref z17, .int z18, .ref z19]))]) (wr := []) (w1 := [(za, .inr (13, [.int 0, .ref z1, .int (nI z2), .int (nI z3), .int 0, .int (-1), .ref z6, .ref z7, .ref z8, .ref z9, .int (nI z10), .ref z11, .ref z12, .ref z13, .ref z14, .ref z15, .int (nI z16), .ref z17, .int z18, .ref z19]))]) (pl := va_pl L M_81) hP hD [0] [] rfl rfl (by decide) (by decide) hk1 hFc hP1 hD1
                  have hP : va_P D vwCl ([(za, .inr (13, [.int 0, .ref z1, .int (nI z2), .int (nI z3), .int 0, .int (-1), .ref z6, .ref z7, .ref z8, .ref z9, .int (nI z10), .ref z11, .ref z12, .ref z13, .ref z14, .ref z15, .int (nI z16), .ref z17, .int z18, .ref z19]))] ++ va_pl L M_81) H_89 := hP
                  have hD : va_D A ([(za, .inr (13, [.int 0, .ref z1, .int (nI z2), .int (nI z3), .int 0, .int (-1), .ref z6, .ref z7, .ref z8, .ref z9, .int (nI z10), .ref z11, .ref z12, .ref z13, .ref z14, .ref z15, .int (nI z16), .ref z17, .int z18, .ref z19]))] ++ va_pl L M_81) := hD
                  have hq := Eq.symm hp_92
                  subst hq
                  rw [hQ]
                  exact W.iret (v := (nI j_22)) hx hb hr (fun t ht hW9 => ⟨⟨(nI j_22), M_81, rfl, ⟨hW, hF, trivial⟩, ⟨0, (-1), by rw [ht]; exact hP, hD⟩⟩, hS.F ht⟩) hS.2.2 dX13_leave_141
                · have hz := rfl (a := 0)
                  refine lv_aload_n hx hb dX13_leave_100 rfl (lv_at hl 2 rfl) ?_
                  refine lv_iconst (v := 3) hx hb dX13_leave_101 (by decide) ?_
                  have hPc := hP.sub (ws' := [(za, .inr (13, [.int 0, .ref z1, .int (nI z2), .int (nI z3), .int z4, .int z5, .ref z6, .ref z7, .ref z8, .ref z9, .int (nI z10), .ref z11, .ref z12, .ref z13, .ref z14, .ref z15, .int (nI z16), .ref z17, .int z18, .ref z19]))]) [0] rfl
                  have hDc := hD.sub (ws' := [(za, .inr (13, [.int 0, .ref z1, .int (nI z2), .int (nI z3), .int z4, .int z5, .ref z6, .ref z7, .ref z8, .ref z9, .int (nI z10), .ref z11, .ref z12, .ref z13, .ref z14, .ref z15, .int (nI z16), .ref z17, .int z18, .ref z19]))]) [0] (by decide) rfl
                  have hKc := hK.sub (tys' := []) [] rfl
                  have hFc := va_free (wc := [(za, .inr (13, [.int 0, .ref z1, .int (nI z2), .int (nI z3), .int z4, .int z5, .ref z6, .ref z7, .ref z8, .ref z9, .int (nI z10), .ref z11, .ref z12, .ref z13, .ref z14, .ref z15, .int (nI z16), .ref z17, .int z18, .ref z19]))]) hD hS hA [0] rfl
                  refine va_calli (va_runV (As := [.int 3]) (rest := []) ⟨hx, hb, hml, hown, hg⟩ (m_refused l D H_48.size za 0 z1 (nI z2) (nI z3) z4 z5 z6 z7 z8 z9 (nI z10) z11 z12 z13 z14 z15 (nI z16) z17 z18 z19 3) (cwV 1 hg (gV wd_725 wd_726 wd_727 wd_717 wd_728) rfl rfl rfl (by decide +kernel) ⟨(Nat.le_trans (Nat.le_of_ble_eq_true rfl) hRf), (Nat.le_trans (Nat.le_of_ble_eq_true rfl) hRl)⟩) ⟨Pr.blind, va_recv hK hP (ci := 13) (q0 := 0) rfl rfl, fun U hU hW => ⟨rfl, Pr.at hPc hKc hDc hN hU hW⟩⟩ rfl rfl hl.1 rfl (lv_room (Nat.le_of_ble_eq_true rfl)) dX13_leave_102 ⟨(Nat.le_trans (Nat.le_of_ble_eq_true rfl) hRc), (Nat.le_trans (Nat.le_of_ble_eq_true rfl) hRs)⟩) hS (fun q _ h => hFc q h) hFc (fun r_94 M_95 t H_93 locs ht hvm hw hB hz1 hk1 hS => ?_)
                  have hp_96 := hw
                  obtain ⟨hP1, hK1, hD1⟩ := hB
                  rw [ht] at hP1
                  obtain ⟨hP, hD⟩ := va_joinQ (X := [(za, .inr (13, [.int 0, .ref z1, .int (nI z2), .int (nI z3), .int z4, .int z5, .ref z6, .ref z7, .ref z8, .ref z9, .int (nI z10), .ref z11, .ref z12, .ref z13, .ref z14, .ref z15, .int (nI z16), .ref z17, .int z18, .ref z19]))]) (cx := [(za, .inr (13, [.int 0, .ref z1, .int (nI z2), .int (nI z3), .int z4, .int z5, .ref z6, .ref z7, .ref z8, .ref z9, .int (nI z10), .ref z11, .ref z12, .ref z13, .ref z14, .ref z15, .int (nI z16), .ref z17, .int z18, .ref z19]))]) (wr := []) (w1 := [(za, .inr (13, [.int 0, .ref z1, .int (nI z2), .int (nI z3), .int 3, .int (-1), .ref z6, .ref z7, .ref z8, .ref z9, .int (nI z10), .ref z11, .ref z12, .ref z13, .ref z14, .ref z15, .int (nI z16), .ref z17, .int z18, .ref z19]))]) (pl := va_pl L M) hP hD [0] [] rfl rfl (by decide) (by decide) hk1 hFc hP1 hD1
                  have hP : va_P D vwCl ([(za, .inr (13, [.int 0, .ref z1, .int (nI z2), .int (nI z3), .int 3, .int (-1), .ref z6, .ref z7, .ref z8, .ref z9, .int (nI z10), .ref z11, .ref z12, .ref z13, .ref z14, .ref z15, .int (nI z16), .ref z17, .int z18, .ref z19]))] ++ va_pl L M) H_93 := hP
                  have hD : va_D A ([(za, .inr (13, [.int 0, .ref z1, .int (nI z2), .int (nI z3), .int 3, .int (-1), .ref z6, .ref z7, .ref z8, .ref z9, .int (nI z10), .ref z11, .ref z12, .ref z13, .ref z14, .ref z15, .int (nI z16), .ref z17, .int z18, .ref z19]))] ++ va_pl L M) := hD
                  have hq := Eq.symm hp_96
                  subst hq
                  rw [hQ]
                  exact W.iret (v := (-1)) hx hb hr (fun t ht hW9 => ⟨⟨(-1), M, rfl, ⟨hW, hF, trivial⟩, ⟨3, (-1), by rw [ht]; exact hP, hD⟩⟩, hS.F ht⟩) hS.2.2 dX13_leave_105
              · have hz := rfl (a := 0)
                refine lv_if_eq (tgt := 100) hx hb dX13_leave_85 (by decide) (fun _ => ?_) (fun c_97 => absurd c_97 (by decide))
                refine lv_aload_n hx hb dX13_leave_100 rfl (lv_at hl 2 rfl) ?_
                refine lv_iconst (v := 3) hx hb dX13_leave_101 (by decide) ?_
                have hPc := hP.sub (ws' := [(za, .inr (13, [.int 0, .ref z1, .int (nI z2), .int (nI z3), .int z4, .int z5, .ref z6, .ref z7, .ref z8, .ref z9, .int (nI z10), .ref z11, .ref z12, .ref z13, .ref z14, .ref z15, .int (nI z16), .ref z17, .int z18, .ref z19]))]) [0] rfl
                have hDc := hD.sub (ws' := [(za, .inr (13, [.int 0, .ref z1, .int (nI z2), .int (nI z3), .int z4, .int z5, .ref z6, .ref z7, .ref z8, .ref z9, .int (nI z10), .ref z11, .ref z12, .ref z13, .ref z14, .ref z15, .int (nI z16), .ref z17, .int z18, .ref z19]))]) [0] (by decide) rfl
                have hKc := hK.sub (tys' := []) [] rfl
                have hFc := va_free (wc := [(za, .inr (13, [.int 0, .ref z1, .int (nI z2), .int (nI z3), .int z4, .int z5, .ref z6, .ref z7, .ref z8, .ref z9, .int (nI z10), .ref z11, .ref z12, .ref z13, .ref z14, .ref z15, .int (nI z16), .ref z17, .int z18, .ref z19]))]) hD hS hA [0] rfl
                refine va_calli (va_runV (As := [.int 3]) (rest := []) ⟨hx, hb, hml, hown, hg⟩ (m_refused l D H_48.size za 0 z1 (nI z2) (nI z3) z4 z5 z6 z7 z8 z9 (nI z10) z11 z12 z13 z14 z15 (nI z16) z17 z18 z19 3) (cwV 1 hg (gV wd_725 wd_726 wd_727 wd_717 wd_728) rfl rfl rfl (by decide +kernel) ⟨(Nat.le_trans (Nat.le_of_ble_eq_true rfl) hRf), (Nat.le_trans (Nat.le_of_ble_eq_true rfl) hRl)⟩) ⟨Pr.blind, va_recv hK hP (ci := 13) (q0 := 0) rfl rfl, fun U hU hW => ⟨rfl, Pr.at hPc hKc hDc hN hU hW⟩⟩ rfl rfl hl.1 rfl (lv_room (Nat.le_of_ble_eq_true rfl)) dX13_leave_102 ⟨(Nat.le_trans (Nat.le_of_ble_eq_true rfl) hRc), (Nat.le_trans (Nat.le_of_ble_eq_true rfl) hRs)⟩) hS (fun q _ h => hFc q h) hFc (fun r_99 M_100 t H_98 locs ht hvm hw hB hz1 hk1 hS => ?_)
                have hp_101 := hw
                obtain ⟨hP1, hK1, hD1⟩ := hB
                rw [ht] at hP1
                obtain ⟨hP, hD⟩ := va_joinQ (X := [(za, .inr (13, [.int 0, .ref z1, .int (nI z2), .int (nI z3), .int z4, .int z5, .ref z6, .ref z7, .ref z8, .ref z9, .int (nI z10), .ref z11, .ref z12, .ref z13, .ref z14, .ref z15, .int (nI z16), .ref z17, .int z18, .ref z19]))]) (cx := [(za, .inr (13, [.int 0, .ref z1, .int (nI z2), .int (nI z3), .int z4, .int z5, .ref z6, .ref z7, .ref z8, .ref z9, .int (nI z10), .ref z11, .ref z12, .ref z13, .ref z14, .ref z15, .int (nI z16), .ref z17, .int z18, .ref z19]))]) (wr := []) (w1 := [(za, .inr (13, [.int 0, .ref z1, .int (nI z2), .int (nI z3), .int 3, .int (-1), .ref z6, .ref z7, .ref z8, .ref z9, .int (nI z10), .ref z11, .ref z12, .ref z13, .ref z14, .ref z15, .int (nI z16), .ref z17, .int z18, .ref z19]))]) (pl := va_pl L M) hP hD [0] [] rfl rfl (by decide) (by decide) hk1 hFc hP1 hD1
                have hP : va_P D vwCl ([(za, .inr (13, [.int 0, .ref z1, .int (nI z2), .int (nI z3), .int 3, .int (-1), .ref z6, .ref z7, .ref z8, .ref z9, .int (nI z10), .ref z11, .ref z12, .ref z13, .ref z14, .ref z15, .int (nI z16), .ref z17, .int z18, .ref z19]))] ++ va_pl L M) H_98 := hP
                have hD : va_D A ([(za, .inr (13, [.int 0, .ref z1, .int (nI z2), .int (nI z3), .int 3, .int (-1), .ref z6, .ref z7, .ref z8, .ref z9, .int (nI z10), .ref z11, .ref z12, .ref z13, .ref z14, .ref z15, .int (nI z16), .ref z17, .int z18, .ref z19]))] ++ va_pl L M) := hD
                have hq := Eq.symm hp_101
                subst hq
                rw [hQ]
                exact W.iret (v := (-1)) hx hb hr (fun t ht hW9 => ⟨⟨(-1), M, rfl, ⟨hW, hF, trivial⟩, ⟨3, (-1), by rw [ht]; exact hP, hD⟩⟩, hS.F ht⟩) hS.2.2 dX13_leave_105
            · have hz := rfl (a := 0)
              have n_102 : ¬ k5 < 0 := gtN (c := 5) (by omega) (Int32.not_le.mp c_46)
              refine lv_aload_n hx hb dX13_leave_73 rfl (lv_at hl 2 rfl) ?_
              refine lv_iconst (v := 2) hx hb dX13_leave_74 (by decide) ?_
              have hPc := hP.sub (ws' := [(za, .inr (13, [.int 0, .ref z1, .int (nI z2), .int (nI z3), .int z4, .int z5, .ref z6, .ref z7, .ref z8, .ref z9, .int (nI z10), .ref z11, .ref z12, .ref z13, .ref z14, .ref z15, .int (nI z16), .ref z17, .int z18, .ref z19]))]) [0] rfl
              have hDc := hD.sub (ws' := [(za, .inr (13, [.int 0, .ref z1, .int (nI z2), .int (nI z3), .int z4, .int z5, .ref z6, .ref z7, .ref z8, .ref z9, .int (nI z10), .ref z11, .ref z12, .ref z13, .ref z14, .ref z15, .int (nI z16), .ref z17, .int z18, .ref z19]))]) [0] (by decide) rfl
              have hKc := hK.sub (tys' := []) [] rfl
              have hFc := va_free (wc := [(za, .inr (13, [.int 0, .ref z1, .int (nI z2), .int (nI z3), .int z4, .int z5, .ref z6, .ref z7, .ref z8, .ref z9, .int (nI z10), .ref z11, .ref z12, .ref z13, .ref z14, .ref z15, .int (nI z16), .ref z17, .int z18, .ref z19]))]) hD hS hA [0] rfl
              refine va_calli (va_runV (As := [.int 2]) (rest := []) ⟨hx, hb, hml, hown, hg⟩ (m_refused l D H_18.size za 0 z1 (nI z2) (nI z3) z4 z5 z6 z7 z8 z9 (nI z10) z11 z12 z13 z14 z15 (nI z16) z17 z18 z19 2) (cwV 1 hg (gV wd_725 wd_726 wd_727 wd_717 wd_728) rfl rfl rfl (by decide +kernel) ⟨(Nat.le_trans (Nat.le_of_ble_eq_true rfl) hRf), (Nat.le_trans (Nat.le_of_ble_eq_true rfl) hRl)⟩) ⟨Pr.blind, va_recv hK hP (ci := 13) (q0 := 0) rfl rfl, fun U hU hW => ⟨rfl, Pr.at hPc hKc hDc hN hU hW⟩⟩ rfl rfl hl.1 rfl (lv_room (Nat.le_of_ble_eq_true rfl)) dX13_leave_75 ⟨(Nat.le_trans (Nat.le_of_ble_eq_true rfl) hRc), (Nat.le_trans (Nat.le_of_ble_eq_true rfl) hRs)⟩) hS (fun q _ h => hFc q h) hFc (fun r_104 M_105 t H_103 locs ht hvm hw hB hz1 hk1 hS => ?_)
              have hp_106 := hw
              obtain ⟨hP1, hK1, hD1⟩ := hB
              rw [ht] at hP1
              obtain ⟨hP, hD⟩ := va_joinQ (X := [(za, .inr (13, [.int 0, .ref z1, .int (nI z2), .int (nI z3), .int z4, .int z5, .ref z6, .ref z7, .ref z8, .ref z9, .int (nI z10), .ref z11, .ref z12, .ref z13, .ref z14, .ref z15, .int (nI z16), .ref z17, .int z18, .ref z19]))]) (cx := [(za, .inr (13, [.int 0, .ref z1, .int (nI z2), .int (nI z3), .int z4, .int z5, .ref z6, .ref z7, .ref z8, .ref z9, .int (nI z10), .ref z11, .ref z12, .ref z13, .ref z14, .ref z15, .int (nI z16), .ref z17, .int z18, .ref z19]))]) (wr := []) (w1 := [(za, .inr (13, [.int 0, .ref z1, .int (nI z2), .int (nI z3), .int 2, .int (-1), .ref z6, .ref z7, .ref z8, .ref z9, .int (nI z10), .ref z11, .ref z12, .ref z13, .ref z14, .ref z15, .int (nI z16), .ref z17, .int z18, .ref z19]))]) (pl := va_pl L M) hP hD [0] [] rfl rfl (by decide) (by decide) hk1 hFc hP1 hD1
              have hP : va_P D vwCl ([(za, .inr (13, [.int 0, .ref z1, .int (nI z2), .int (nI z3), .int 2, .int (-1), .ref z6, .ref z7, .ref z8, .ref z9, .int (nI z10), .ref z11, .ref z12, .ref z13, .ref z14, .ref z15, .int (nI z16), .ref z17, .int z18, .ref z19]))] ++ va_pl L M) H_103 := hP
              have hD : va_D A ([(za, .inr (13, [.int 0, .ref z1, .int (nI z2), .int (nI z3), .int 2, .int (-1), .ref z6, .ref z7, .ref z8, .ref z9, .int (nI z10), .ref z11, .ref z12, .ref z13, .ref z14, .ref z15, .int (nI z16), .ref z17, .int z18, .ref z19]))] ++ va_pl L M) := hD
              have hq := Eq.symm hp_106
              subst hq
              rw [hQ]
              exact W.iret (v := (-1)) hx hb hr (fun t ht hW9 => ⟨⟨(-1), M, rfl, ⟨hW, hF, trivial⟩, ⟨2, (-1), by rw [ht]; exact hP, hD⟩⟩, hS.F ht⟩) hS.2.2 dX13_leave_78
  · have hz := rfl (a := 0)
    refine lv_if_ne (tgt := 20) hx hb dX13_leave_11 (by decide) (fun c_107 => absurd c_107 (by decide)) (fun _ => ?_)
    refine lv_aload_n hx hb dX13_leave_14 rfl (lv_at hl 0 rfl) ?_
    refine lv_iconst (v := 1) hx hb dX13_leave_15 (by decide) ?_
    have hPc := hP.sub (ws' := [(za, .inr (13, [.int 0, .ref z1, .int (nI z2), .int (nI z3), .int z4, .int z5, .ref z6, .ref z7, .ref z8, .ref z9, .int (nI z10), .ref z11, .ref z12, .ref z13, .ref z14, .ref z15, .int (nI z16), .ref z17, .int z18, .ref z19]))]) [0] rfl
    have hDc := hD.sub (ws' := [(za, .inr (13, [.int 0, .ref z1, .int (nI z2), .int (nI z3), .int z4, .int z5, .ref z6, .ref z7, .ref z8, .ref z9, .int (nI z10), .ref z11, .ref z12, .ref z13, .ref z14, .ref z15, .int (nI z16), .ref z17, .int z18, .ref z19]))]) [0] (by decide) rfl
    have hKc := hK.sub (tys' := []) [] rfl
    have hFc := va_free (wc := [(za, .inr (13, [.int 0, .ref z1, .int (nI z2), .int (nI z3), .int z4, .int z5, .ref z6, .ref z7, .ref z8, .ref z9, .int (nI z10), .ref z11, .ref z12, .ref z13, .ref z14, .ref z15, .int (nI z16), .ref z17, .int z18, .ref z19]))]) hD hS hA [0] rfl
    refine va_calli (va_runV (As := [.int 1]) (rest := []) ⟨hx, hb, hml, hown, hg⟩ (m_refused l D H_2.size za 0 z1 (nI z2) (nI z3) z4 z5 z6 z7 z8 z9 (nI z10) z11 z12 z13 z14 z15 (nI z16) z17 z18 z19 1) (cwV 1 hg (gV wd_725 wd_726 wd_727 wd_717 wd_728) rfl rfl rfl (by decide +kernel) ⟨(Nat.le_trans (Nat.le_of_ble_eq_true rfl) hRf), (Nat.le_trans (Nat.le_of_ble_eq_true rfl) hRl)⟩) ⟨Pr.blind, va_recv hK hP (ci := 13) (q0 := 0) rfl rfl, fun U hU hW => ⟨rfl, Pr.at hPc hKc hDc hN hU hW⟩⟩ rfl rfl hl.1 rfl (lv_room (Nat.le_of_ble_eq_true rfl)) dX13_leave_16 ⟨(Nat.le_trans (Nat.le_of_ble_eq_true rfl) hRc), (Nat.le_trans (Nat.le_of_ble_eq_true rfl) hRs)⟩) hS (fun q _ h => hFc q h) hFc (fun r_109 M_110 t H_108 locs ht hvm hw hB hz1 hk1 hS => ?_)
    have hp_111 := hw
    obtain ⟨hP1, hK1, hD1⟩ := hB
    rw [ht] at hP1
    obtain ⟨hP, hD⟩ := va_joinQ (X := [(za, .inr (13, [.int 0, .ref z1, .int (nI z2), .int (nI z3), .int z4, .int z5, .ref z6, .ref z7, .ref z8, .ref z9, .int (nI z10), .ref z11, .ref z12, .ref z13, .ref z14, .ref z15, .int (nI z16), .ref z17, .int z18, .ref z19]))]) (cx := [(za, .inr (13, [.int 0, .ref z1, .int (nI z2), .int (nI z3), .int z4, .int z5, .ref z6, .ref z7, .ref z8, .ref z9, .int (nI z10), .ref z11, .ref z12, .ref z13, .ref z14, .ref z15, .int (nI z16), .ref z17, .int z18, .ref z19]))]) (wr := []) (w1 := [(za, .inr (13, [.int 0, .ref z1, .int (nI z2), .int (nI z3), .int 1, .int (-1), .ref z6, .ref z7, .ref z8, .ref z9, .int (nI z10), .ref z11, .ref z12, .ref z13, .ref z14, .ref z15, .int (nI z16), .ref z17, .int z18, .ref z19]))]) (pl := va_pl L M) hP hD [0] [] rfl rfl (by decide) (by decide) hk1 hFc hP1 hD1
    have hP : va_P D vwCl ([(za, .inr (13, [.int 0, .ref z1, .int (nI z2), .int (nI z3), .int 1, .int (-1), .ref z6, .ref z7, .ref z8, .ref z9, .int (nI z10), .ref z11, .ref z12, .ref z13, .ref z14, .ref z15, .int (nI z16), .ref z17, .int z18, .ref z19]))] ++ va_pl L M) H_108 := hP
    have hD : va_D A ([(za, .inr (13, [.int 0, .ref z1, .int (nI z2), .int (nI z3), .int 1, .int (-1), .ref z6, .ref z7, .ref z8, .ref z9, .int (nI z10), .ref z11, .ref z12, .ref z13, .ref z14, .ref z15, .int (nI z16), .ref z17, .int z18, .ref z19]))] ++ va_pl L M) := hD
    have hq := Eq.symm hp_111
    subst hq
    rw [hQ]
    exact W.iret (v := (-1)) hx hb hr (fun t ht hW9 => ⟨⟨(-1), M, rfl, ⟨hW, hF, trivial⟩, ⟨1, (-1), by rw [ht]; exact hP, hD⟩⟩, hS.F ht⟩) hS.2.2 dX13_leave_19
set_option maxHeartbeats 4000000 in
set_option maxRecDepth 100000 in
theorem r_X13_begins (l : Launch) (D : va_G) (cy : Nat → ClassId) (K : Kp) (L : List Nat) (M : Hp) (sz : Nat) (za : Nat) (z0 : Int32) (z1 : Nat) (z2 : Nat) (z3 : Nat) (z4 : Int32) (z5 : Int32) (z6 : Nat) (z7 : Nat) (z8 : Nat) (z9 : Nat) (z10 : Nat) (z11 : Nat) (z12 : Nat) (z13 : Nat) (z14 : Nat) (z15 : Nat) (z16 : Nat) (z17 : Nat) (z18 : Int32) (z19 : Nat) (k1 : Nat) (k2 : Nat) (k3 : Nat) (k4 : Int32) (k5 : Int32) (hW : WOM cy K L M) (i1 : isk K L z1 23 8) (b2 : z2 ≤ 8) (b3 : z3 ≤ 40) (i6 : isk K L z6 47 40) (i7 : isk K L z7 48 40) (i8 : isk K L z8 49 8) (i9 : isk K L z9 50 8) (b10 : z10 ≤ 8) (i11 : isk K L z11 32 24) (i12 : isk K L z12 14 24) (i13 : isk K L z13 15 24) (i14 : isk K L z14 15 24) (i15 : isk K L z15 15 24) (b16 : z16 ≤ 24) (i17 : isk K L z17 14 24) (i19 : isk K L z19 15 25) (ik1 : isk K L k1 12 0) (nk2 : k2 < 6) (nk3 : k3 < 40) (hFL : FL k1 10 24 M) : Met l yX13_begins (wsM yX13_begins cX13_begins 7 (some .int)) ({ frames := 0, cells := 0, slots := 0, locals := 0 }) (va_Pc [.ref za, .ref k1, .int (nI k2), .int (nI k3), .int k4, .int k5] (PG D cy [(za, .inr (13, [.int z0, .ref z1, .int (nI z2), .int (nI z3), .int z4, .int z5, .ref z6, .ref z7, .ref z8, .ref z9, .int (nI z10), .ref z11, .ref z12, .ref z13, .ref z14, .ref z15, .int (nI z16), .ref z17, .int z18, .ref z19]))] L M sz)) (va_Qi (fun (r : Int32) (M9 : Hp) => WOM cy K L M9 ∧ fr K L [12, 14, 16, 30, 31, 33, 34, 41, 42, 75, 76] M M9 ∧ fG K L [10] M M9 ∧ ((∃ (j : Nat), r = (nI j) ∧ j < 24))) (fun M9 t => PQ D [(za, .inr (13, [.int z0, .ref z1, .int (nI z2), .int (nI z3), .int z4, .int z5, .ref z6, .ref z7, .ref z8, .ref z9, .int (nI z10), .ref z11, .ref z12, .ref z13, .ref z14, .ref z15, .int (nI z16), .ref z17, .int z18, .ref z19]))] L M9 (va_A ([(za, .inr (13, [.int z0, .ref z1, .int (nI z2), .int (nI z3), .int z4, .int z5, .ref z6, .ref z7, .ref z8, .ref z9, .int (nI z10), .ref z11, .ref z12, .ref z13, .ref z14, .ref z15, .int (nI z16), .ref z17, .int z18, .ref z19]))] ++ va_pl L M) sz) t) (va_A ([(za, .inr (13, [.int z0, .ref z1, .int (nI z2), .int (nI z3), .int z4, .int z5, .ref z6, .ref z7, .ref z8, .ref z9, .int (nI z10), .ref z11, .ref z12, .ref z13, .ref z14, .ref z15, .int (nI z16), .ref z17, .int z18, .ref z19]))] ++ va_pl L M) sz)) 0 0 (va_A ([(za, .inr (13, [.int z0, .ref z1, .int (nI z2), .int (nI z3), .int z4, .int z5, .ref z6, .ref z7, .ref z8, .ref z9, .int (nI z10), .ref z11, .ref z12, .ref z13, .ref z14, .ref z15, .int (nI z16), .ref z17, .int z18, .ref z19]))] ++ va_pl L M) sz) := by
  refine Met.ofW (cc := cX13_begins) (maxL := 7) (ret := (some .int)) (by decide) rfl ?_
  intro p e s m args below meth c s₁ B hml hv
  obtain ⟨rfl, hsz, hP, hK, hD0, hN⟩ := hv
  have hx := B.exec
  have hb := B.bytes
  have hr := B.returns
  have hts := atoms_spec (ws := (wsM yX13_begins cX13_begins 7 (some .int))) B.pre
  have hg : ∀ w ∈ lw_good, w.before _ s = true := fun w h => hts w (List.mem_cons_of_mem _ h)
  have hown : s.vm.findClass RX13 = some m.cls := findClass_of_methodNamed B.named
  have hlocks := B.notSynchronized
  subst hsz
  have hD := hD0.self (sz := s.heap.size)
  generalize hAe : va_A ([(za, .inr (13, [.int z0, .ref z1, .int (nI z2), .int (nI z3), .int z4, .int z5, .ref z6, .ref z7, .ref z8, .ref z9, .int (nI z10), .ref z11, .ref z12, .ref z13, .ref z14, .ref z15, .int (nI z16), .ref z17, .int z18, .ref z19]))] ++ va_pl L M) s.heap.size = A at hD ⊢
  have hA : ∀ q : Nat, s.heap.size ≤ q → A q := fun q h => by rw [← hAe]; exact Or.inr h
  have hS : va_S A s.heap s.heap [] := va_S.rf
  have hl := lv_entry ([.ref za, .ref k1, .int (nI k2), .int (nI k3), .int k4, .int k5]) (n := 7) (Nat.le_of_ble_eq_true rfl)
  rw [lg_entry_eq]
  generalize (lg_sl ([.ref za, .ref k1, .int (nI k2), .int (nI k3), .int k4, .int k5]) ++ List.replicate (7 - (lg_sl ([.ref za, .ref k1, .int (nI k2), .int (nI k3), .int k4, .int k5])).length) Slot.unset).toArray = ls at hl ⊢
  refine W.nameQ (fun Q hQ => ?_)
  refine W.nameR (fun R hR => ?_)
  have hRf : 0 ≤ R.frames := by rw [hR]; exact Nat.le_of_ble_eq_true rfl
  have hRl : 0 ≤ R.locals := by rw [hR]; exact Nat.le_of_ble_eq_true rfl
  have hRc : 0 ≤ R.cells := by rw [hR]; exact Nat.le_of_ble_eq_true rfl
  have hRs : 0 ≤ R.slots := by rw [hR]; exact Nat.le_of_ble_eq_true rfl
  have hF : fr K L [12, 14, 16, 30, 31, 33, 34, 41, 42, 75, 76] M M := fr.rf
  have hG : fG K L [10] M M := fG.rf
  have hl : lv_has ls 7 [(0, .ref za), (1, .ref k1), (2, .int (nI k2)), (3, .int (nI k3)), (4, .int k4), (5, .int k5)] := hl
  obtain ⟨fs1, hM1, hn1, hl1⟩ := hW.open_12 ik1
  obtain ⟨v2, hv2, hc2⟩ : ∃ v : Nat, fs1[10]? = some (.int (nI v) : Value) ∧ v ≤ 24 := hl1 10 (by decide)
  have hfl : v2 < 24 := by
    obtain ⟨fs, n, e1, e2, e3⟩ := hFL
    rw [inr12 (e1.symm.trans hM1)] at e2
    have e4 := Value.int.inj (Option.some.inj (e2.symm.trans hv2))
    have e5 := (iEQ (by omega) (by omega)).mp e4
    omega
  refine lv_aload_n hx hb dX13_begins_0 rfl (lv_at hl 1 rfl) ?_
  refine pg_getN (D := D) (ci := 12) (v := .int (nI v2)) (C := RX12) (T := TX12) (N := 51) hx hb hg inG12 hown hK hP ik1.1 hM1 rfl 10 (by decide) (hN.use (Cond.fieldLinkNest RX13 68 RX12 "tenures" "I" RX13) 19 rfl rfl) (fun _ h9 => h9) hv2 dX13_begins_1 ?_
  refine lv_istore (lv' := [(6, .int (nI v2)), (0, .ref za), (1, .ref k1), (2, .int (nI k2)), (3, .int (nI k3)), (4, .int k4), (5, .int k5)]) hx hb dX13_begins_4 hl (by decide) rfl (fun ls hl => ?_)
  refine lv_aload_n hx hb dX13_begins_6 rfl (lv_at hl 2 rfl) ?_
  refine lv_dup hx hb dX13_begins_7 rfl ?_
  refine pg_getN (D := D) (ci := 12) (v := .int (nI v2)) (C := RX12) (T := TX12) (N := 51) hx hb hg inG12 hown hK hP ik1.1 hM1 rfl 10 (by decide) (hN.use (Cond.fieldLinkNest RX13 68 RX12 "tenures" "I" RX13) 19 rfl rfl) (fun _ h9 => h9) hv2 dX13_begins_8 ?_
  refine lv_iconst (v := 1) hx hb dX13_begins_11 (by decide) ?_
  refine lv_iadd hx hb dX13_begins_12 ?_
  refine lv_topi (fun f_3 ef_3 => ?_)
  obtain rfl : f_3 = (nI (v2 + 1)) := ef_3.trans (nI_add v2 1)
  refine pg_putN (D := D) (ci := 12) (v := .int (nI (v2 + 1))) (ty := .int) (C := RX12) (T := TX12) (N := 51) hx hb hg inG12 tyX12 tyX12_ok nmX12 hown hK hP hD hS ik1.1 hM1 rfl 10 (by decide) (hN.use (Cond.fieldLinkNest RX13 68 RX12 "tenures" "I" RX13) 19 rfl rfl) (fun _ h9 => h9) rfl (by decide +kernel) rfl rfl (by rw [hn1]; decide) dX13_begins_13 (fun H_4 locs hP hD hS => ?_)
  have hs_7 : (fs1.set 10 (.int (nI (v2 + 1))))[10]? = some (.int (nI (v2 + 1))) := List.getElem?_set_self (by rw [hn1]; decide)
  have hk_6 := fld12_set (k := 10) (w := .int (nI (v2 + 1))) hl1 (show fld12 K L 10 (fs1.set 10 (.int (nI (v2 + 1)))) from ⟨(v2 + 1), hs_7, by omega⟩)
  have hn_8 : (fs1.set 10 (.int (nI (v2 + 1)))).length = 51 := by rw [List.length_set]; exact hn1
  have hb_9 : (v2 + 1) ≤ 24 := by omega
  obtain ⟨M_10, eM_10⟩ : ∃ M1 : Hp, M1 = va_up M k1 (.inr (12, fs1.set 10 (.int (nI (v2 + 1))))) := ⟨_, rfl⟩
  have hP : va_P D vwCl ([(za, .inr (13, [.int z0, .ref z1, .int (nI z2), .int (nI z3), .int z4, .int z5, .ref z6, .ref z7, .ref z8, .ref z9, .int (nI z10), .ref z11, .ref z12, .ref z13, .ref z14, .ref z15, .int (nI z16), .ref z17, .int z18, .ref z19]))] ++ va_pl L M_10) H_4 := by rw [eM_10]; exact hP
  have hD : va_D A ([(za, .inr (13, [.int z0, .ref z1, .int (nI z2), .int (nI z3), .int z4, .int z5, .ref z6, .ref z7, .ref z8, .ref z9, .int (nI z10), .ref z11, .ref z12, .ref z13, .ref z14, .ref z15, .int (nI z16), .ref z17, .int z18, .ref z19]))] ++ va_pl L M_10) := by rw [eM_10]; exact hD
  have hW : WOM cy K L M_10 := by rw [eM_10]; exact hW.up_12 ik1 ⟨_, rfl, hn_8, hk_6⟩
  have hF : fr K L [12, 14, 16, 30, 31, 33, 34, 41, 42, 75, 76] M M_10 := by rw [eM_10]; exact hF.up ik1 (by decide)
  have hG : fG K L [10] M M_10 := by rw [eM_10]; exact hG.up hM1 (by decide)
  have hM_11 : M_10 k1 = .inr (12, fs1.set 10 (.int (nI (v2 + 1)))) := by rw [eM_10]; exact va_up_self _ _ _
  refine lv_aload_n hx hb dX13_begins_16 rfl (lv_at hl 2 rfl) ?_
  obtain ⟨v12, hv12, hc12⟩ : ∃ v : Nat, (fs1.set 10 (.int (nI (v2 + 1))))[19]? = some (.ref v : Value) ∧ isk K L v 30 24 := hk_6 19 (by decide)
  refine pg_getN (D := D) (ci := 12) (v := .ref v12) (C := RX12) (T := TX12) (N := 51) hx hb hg inG12 hown hK hP ik1.1 hM_11 rfl 19 (by decide) (hN.use (Cond.fieldLinkNest RX13 72 RX12 "who" "[I" RX13) 28 rfl rfl) (fun _ h9 => h9) hv12 dX13_begins_17 ?_
  refine lv_iload hx hb dX13_begins_20 (lv_at hl 0 rfl) ?_
  refine lv_iload_n hx hb dX13_begins_22 rfl (lv_at hl 4 rfl) ?_
  obtain ⟨f13, hM13, hf13⟩ := hW.open_30 hc12
  refine pg_iast hx hb hK hP hD hS hc12.1 0 hM13 rfl (inbN v2 24 (by omega) (by omega)) dX13_begins_23 (fun H_14 locs hP hD hS => ?_)
  obtain ⟨M_15, eM_15⟩ : ∃ M1 : Hp, M1 = va_up M_10 v12 (.inl (cy 14, 24, .inl (upd f13 ((nI v2) : Int32).toNatClampNeg (nI k3)))) := ⟨_, rfl⟩
  have hP : va_P D vwCl ([(za, .inr (13, [.int z0, .ref z1, .int (nI z2), .int (nI z3), .int z4, .int z5, .ref z6, .ref z7, .ref z8, .ref z9, .int (nI z10), .ref z11, .ref z12, .ref z13, .ref z14, .ref z15, .int (nI z16), .ref z17, .int z18, .ref z19]))] ++ va_pl L M_15) H_14 := by rw [eM_15]; exact hP
  have hD : va_D A ([(za, .inr (13, [.int z0, .ref z1, .int (nI z2), .int (nI z3), .int z4, .int z5, .ref z6, .ref z7, .ref z8, .ref z9, .int (nI z10), .ref z11, .ref z12, .ref z13, .ref z14, .ref z15, .int (nI z16), .ref z17, .int z18, .ref z19]))] ++ va_pl L M_15) := by rw [eM_15]; exact hD
  have hW : WOM cy K L M_15 := by rw [eM_15]; exact hW.up_30 hc12 ⟨_, rfl, (updP (P := fun z => ∃ c : Nat, c < 40 ∧ z = nI c) hf13 ⟨k3, by omega, rfl⟩)⟩
  have hF : fr K L [12, 14, 16, 30, 31, 33, 34, 41, 42, 75, 76] M M_15 := by rw [eM_15]; exact hF.up hc12 (by decide)
  have hG : fG K L [10] M M_15 := by rw [eM_15]; exact hG.arr hc12 (by decide)
  have hM_16 : M_15 v12 = .inl (cy 14, 24, .inl (upd f13 ((nI v2) : Int32).toNatClampNeg (nI k3))) := by rw [eM_15]; exact va_up_self _ _ _
  have hM_17 : M_15 k1 = .inr (12, fs1.set 10 (.int (nI (v2 + 1)))) := by rw [eM_15, va_up_ne _ _ (ik1.neT hc12 (by decide))]; exact hM_11
  have hf_19 : ∀ j, j < 24 → ∃ c : Nat, c < 40 ∧ (upd f13 ((nI v2) : Int32).toNatClampNeg (nI k3)) j = nI c := (updP (P := fun z => ∃ c : Nat, c < 40 ∧ z = nI c) hf13 ⟨k3, by omega, rfl⟩)
  obtain ⟨f_18, ef_18⟩ : ∃ f : Nat → Int32, f = upd f13 ((nI v2) : Int32).toNatClampNeg (nI k3) := ⟨_, rfl⟩
  rw [← ef_18] at hM_16 hf_19
  clear ef_18
  refine lv_aload_n hx hb dX13_begins_24 rfl (lv_at hl 2 rfl) ?_
  obtain ⟨v20, hv20, hc20⟩ : ∃ v : Nat, (fs1.set 10 (.int (nI (v2 + 1))))[20]? = some (.ref v : Value) ∧ isk K L v 31 24 := hk_6 20 (by decide)
  refine pg_getN (D := D) (ci := 12) (v := .ref v20) (C := RX12) (T := TX12) (N := 51) hx hb hg inG12 hown hK hP ik1.1 hM_17 rfl 20 (by decide) (hN.use (Cond.fieldLinkNest RX13 110 RX12 "where" "[I" RX13) 29 rfl rfl) (fun _ h9 => h9) hv20 dX13_begins_25 ?_
  refine lv_iload hx hb dX13_begins_28 (lv_at hl 0 rfl) ?_
  refine lv_iload_n hx hb dX13_begins_30 rfl (lv_at hl 3 rfl) ?_
  obtain ⟨f21, hM21, hf21⟩ := hW.open_31 hc20
  refine pg_iast hx hb hK hP hD hS hc20.1 0 hM21 rfl (inbN v2 24 (by omega) (by omega)) dX13_begins_31 (fun H_22 locs hP hD hS => ?_)
  obtain ⟨M_23, eM_23⟩ : ∃ M1 : Hp, M1 = va_up M_15 v20 (.inl (cy 14, 24, .inl (upd f21 ((nI v2) : Int32).toNatClampNeg (nI k2)))) := ⟨_, rfl⟩
  have hP : va_P D vwCl ([(za, .inr (13, [.int z0, .ref z1, .int (nI z2), .int (nI z3), .int z4, .int z5, .ref z6, .ref z7, .ref z8, .ref z9, .int (nI z10), .ref z11, .ref z12, .ref z13, .ref z14, .ref z15, .int (nI z16), .ref z17, .int z18, .ref z19]))] ++ va_pl L M_23) H_22 := by rw [eM_23]; exact hP
  have hD : va_D A ([(za, .inr (13, [.int z0, .ref z1, .int (nI z2), .int (nI z3), .int z4, .int z5, .ref z6, .ref z7, .ref z8, .ref z9, .int (nI z10), .ref z11, .ref z12, .ref z13, .ref z14, .ref z15, .int (nI z16), .ref z17, .int z18, .ref z19]))] ++ va_pl L M_23) := by rw [eM_23]; exact hD
  have hW : WOM cy K L M_23 := by rw [eM_23]; exact hW.up_31 hc20 ⟨_, rfl, (updP (P := fun z => ∃ c : Nat, c < 6 ∧ z = nI c) hf21 ⟨k2, by omega, rfl⟩)⟩
  have hF : fr K L [12, 14, 16, 30, 31, 33, 34, 41, 42, 75, 76] M M_23 := by rw [eM_23]; exact hF.up hc20 (by decide)
  have hG : fG K L [10] M M_23 := by rw [eM_23]; exact hG.arr hc20 (by decide)
  have hM_24 : M_23 v20 = .inl (cy 14, 24, .inl (upd f21 ((nI v2) : Int32).toNatClampNeg (nI k2))) := by rw [eM_23]; exact va_up_self _ _ _
  have hM_25 : M_23 v12 = .inl (cy 14, 24, .inl (f_18)) := by rw [eM_23, va_up_ne _ _ (hc12.neT hc20 (by decide))]; exact hM_16
  have hM_26 : M_23 k1 = .inr (12, fs1.set 10 (.int (nI (v2 + 1)))) := by rw [eM_23, va_up_ne _ _ (ik1.neT hc20 (by decide))]; exact hM_17
  have hf_28 : ∀ j, j < 24 → ∃ c : Nat, c < 6 ∧ (upd f21 ((nI v2) : Int32).toNatClampNeg (nI k2)) j = nI c := (updP (P := fun z => ∃ c : Nat, c < 6 ∧ z = nI c) hf21 ⟨k2, by omega, rfl⟩)
  obtain ⟨f_27, ef_27⟩ : ∃ f : Nat → Int32, f = upd f21 ((nI v2) : Int32).toNatClampNeg (nI k2) := ⟨_, rfl⟩
  rw [← ef_27] at hM_24 hf_28
  clear ef_27
  refine lv_aload_n hx hb dX13_begins_32 rfl (lv_at hl 2 rfl) ?_
  obtain ⟨v29, hv29, hc29⟩ : ∃ v : Nat, (fs1.set 10 (.int (nI (v2 + 1))))[21]? = some (.ref v : Value) ∧ isk K L v 75 24 := hk_6 21 (by decide)
  refine pg_getN (D := D) (ci := 12) (v := .ref v29) (C := RX12) (T := TX12) (N := 51) hx hb hg inG12 hown hK hP ik1.1 hM_26 rfl 21 (by decide) (hN.use (Cond.fieldLinkNest RX13 112 RX12 "begin" "[I" RX13) 30 rfl rfl) (fun _ h9 => h9) hv29 dX13_begins_33 ?_
  refine lv_iload hx hb dX13_begins_36 (lv_at hl 0 rfl) ?_
  refine lv_iload hx hb dX13_begins_38 (lv_at hl 5 rfl) ?_
  obtain ⟨f30, hM30⟩ := hW.open_75 hc29
  refine pg_iast hx hb hK hP hD hS hc29.1 0 hM30 rfl (inbN v2 24 (by omega) (by omega)) dX13_begins_40 (fun H_31 locs hP hD hS => ?_)
  obtain ⟨M_32, eM_32⟩ : ∃ M1 : Hp, M1 = va_up M_23 v29 (.inl (cy 14, 24, .inl (upd f30 ((nI v2) : Int32).toNatClampNeg k4))) := ⟨_, rfl⟩
  have hP : va_P D vwCl ([(za, .inr (13, [.int z0, .ref z1, .int (nI z2), .int (nI z3), .int z4, .int z5, .ref z6, .ref z7, .ref z8, .ref z9, .int (nI z10), .ref z11, .ref z12, .ref z13, .ref z14, .ref z15, .int (nI z16), .ref z17, .int z18, .ref z19]))] ++ va_pl L M_32) H_31 := by rw [eM_32]; exact hP
  have hD : va_D A ([(za, .inr (13, [.int z0, .ref z1, .int (nI z2), .int (nI z3), .int z4, .int z5, .ref z6, .ref z7, .ref z8, .ref z9, .int (nI z10), .ref z11, .ref z12, .ref z13, .ref z14, .ref z15, .int (nI z16), .ref z17, .int z18, .ref z19]))] ++ va_pl L M_32) := by rw [eM_32]; exact hD
  have hW : WOM cy K L M_32 := by rw [eM_32]; exact hW.up_75 hc29 ⟨_, rfl⟩
  have hF : fr K L [12, 14, 16, 30, 31, 33, 34, 41, 42, 75, 76] M M_32 := by rw [eM_32]; exact hF.up hc29 (by decide)
  have hG : fG K L [10] M M_32 := by rw [eM_32]; exact hG.arr hc29 (by decide)
  have hM_33 : M_32 v29 = .inl (cy 14, 24, .inl (upd f30 ((nI v2) : Int32).toNatClampNeg k4)) := by rw [eM_32]; exact va_up_self _ _ _
  have hM_34 : M_32 v20 = .inl (cy 14, 24, .inl (f_27)) := by rw [eM_32, va_up_ne _ _ (hc20.neT hc29 (by decide))]; exact hM_24
  have hM_35 : M_32 v12 = .inl (cy 14, 24, .inl (f_18)) := by rw [eM_32, va_up_ne _ _ (hc12.neT hc29 (by decide))]; exact hM_25
  have hM_36 : M_32 k1 = .inr (12, fs1.set 10 (.int (nI (v2 + 1)))) := by rw [eM_32, va_up_ne _ _ (ik1.neT hc29 (by decide))]; exact hM_26
  obtain ⟨f_37, ef_37⟩ : ∃ f : Nat → Int32, f = upd f30 ((nI v2) : Int32).toNatClampNeg k4 := ⟨_, rfl⟩
  rw [← ef_37] at hM_33
  clear ef_37
  refine lv_aload_n hx hb dX13_begins_41 rfl (lv_at hl 2 rfl) ?_
  obtain ⟨v38, hv38, hc38⟩ : ∃ v : Nat, (fs1.set 10 (.int (nI (v2 + 1))))[22]? = some (.ref v : Value) ∧ isk K L v 41 24 := hk_6 22 (by decide)
  refine pg_getN (D := D) (ci := 12) (v := .ref v38) (C := RX12) (T := TX12) (N := 51) hx hb hg inG12 hown hK hP ik1.1 hM_36 rfl 22 (by decide) (hN.use (Cond.fieldLinkNest RX13 95 RX12 "ended" "[I" RX13) 31 rfl rfl) (fun _ h9 => h9) hv38 dX13_begins_42 ?_
  refine lv_iload hx hb dX13_begins_45 (lv_at hl 0 rfl) ?_
  refine lv_iconst (v := (-1)) hx hb dX13_begins_47 (by decide) ?_
  obtain ⟨f39, hM39⟩ := hW.open_41 hc38
  refine pg_iast hx hb hK hP hD hS hc38.1 0 hM39 rfl (inbN v2 24 (by omega) (by omega)) dX13_begins_48 (fun H_40 locs hP hD hS => ?_)
  obtain ⟨M_41, eM_41⟩ : ∃ M1 : Hp, M1 = va_up M_32 v38 (.inl (cy 14, 24, .inl (upd f39 ((nI v2) : Int32).toNatClampNeg (-1)))) := ⟨_, rfl⟩
  have hP : va_P D vwCl ([(za, .inr (13, [.int z0, .ref z1, .int (nI z2), .int (nI z3), .int z4, .int z5, .ref z6, .ref z7, .ref z8, .ref z9, .int (nI z10), .ref z11, .ref z12, .ref z13, .ref z14, .ref z15, .int (nI z16), .ref z17, .int z18, .ref z19]))] ++ va_pl L M_41) H_40 := by rw [eM_41]; exact hP
  have hD : va_D A ([(za, .inr (13, [.int z0, .ref z1, .int (nI z2), .int (nI z3), .int z4, .int z5, .ref z6, .ref z7, .ref z8, .ref z9, .int (nI z10), .ref z11, .ref z12, .ref z13, .ref z14, .ref z15, .int (nI z16), .ref z17, .int z18, .ref z19]))] ++ va_pl L M_41) := by rw [eM_41]; exact hD
  have hW : WOM cy K L M_41 := by rw [eM_41]; exact hW.up_41 hc38 ⟨_, rfl⟩
  have hF : fr K L [12, 14, 16, 30, 31, 33, 34, 41, 42, 75, 76] M M_41 := by rw [eM_41]; exact hF.up hc38 (by decide)
  have hG : fG K L [10] M M_41 := by rw [eM_41]; exact hG.arr hc38 (by decide)
  have hM_42 : M_41 v38 = .inl (cy 14, 24, .inl (upd f39 ((nI v2) : Int32).toNatClampNeg (-1))) := by rw [eM_41]; exact va_up_self _ _ _
  have hM_43 : M_41 v29 = .inl (cy 14, 24, .inl (f_37)) := by rw [eM_41, va_up_ne _ _ (hc29.neT hc38 (by decide))]; exact hM_33
  have hM_44 : M_41 v20 = .inl (cy 14, 24, .inl (f_27)) := by rw [eM_41, va_up_ne _ _ (hc20.neT hc38 (by decide))]; exact hM_34
  have hM_45 : M_41 v12 = .inl (cy 14, 24, .inl (f_18)) := by rw [eM_41, va_up_ne _ _ (hc12.neT hc38 (by decide))]; exact hM_35
  have hM_46 : M_41 k1 = .inr (12, fs1.set 10 (.int (nI (v2 + 1)))) := by rw [eM_41, va_up_ne _ _ (ik1.neT hc38 (by decide))]; exact hM_36
  obtain ⟨f_47, ef_47⟩ : ∃ f : Nat → Int32, f = upd f39 ((nI v2) : Int32).toNatClampNeg (-1) := ⟨_, rfl⟩
  rw [← ef_47] at hM_42
  clear ef_47
  refine lv_aload_n hx hb dX13_begins_49 rfl (lv_at hl 2 rfl) ?_
  obtain ⟨v48, hv48, hc48⟩ : ∃ v : Nat, (fs1.set 10 (.int (nI (v2 + 1))))[23]? = some (.ref v : Value) ∧ isk K L v 42 24 := hk_6 23 (by decide)
  refine pg_getN (D := D) (ci := 12) (v := .ref v48) (C := RX12) (T := TX12) (N := 51) hx hb hg inG12 hown hK hP ik1.1 hM_46 rfl 23 (by decide) (hN.use (Cond.fieldLinkNest RX13 115 RX12 "instalments" "[I" RX13) 32 rfl rfl) (fun _ h9 => h9) hv48 dX13_begins_50 ?_
  refine lv_iload hx hb dX13_begins_53 (lv_at hl 0 rfl) ?_
  refine lv_iconst (v := 0) hx hb dX13_begins_55 (by decide) ?_
  obtain ⟨f49, hM49⟩ := hW.open_42 hc48
  refine pg_iast hx hb hK hP hD hS hc48.1 0 hM49 rfl (inbN v2 24 (by omega) (by omega)) dX13_begins_56 (fun H_50 locs hP hD hS => ?_)
  obtain ⟨M_51, eM_51⟩ : ∃ M1 : Hp, M1 = va_up M_41 v48 (.inl (cy 14, 24, .inl (upd f49 ((nI v2) : Int32).toNatClampNeg 0))) := ⟨_, rfl⟩
  have hP : va_P D vwCl ([(za, .inr (13, [.int z0, .ref z1, .int (nI z2), .int (nI z3), .int z4, .int z5, .ref z6, .ref z7, .ref z8, .ref z9, .int (nI z10), .ref z11, .ref z12, .ref z13, .ref z14, .ref z15, .int (nI z16), .ref z17, .int z18, .ref z19]))] ++ va_pl L M_51) H_50 := by rw [eM_51]; exact hP
  have hD : va_D A ([(za, .inr (13, [.int z0, .ref z1, .int (nI z2), .int (nI z3), .int z4, .int z5, .ref z6, .ref z7, .ref z8, .ref z9, .int (nI z10), .ref z11, .ref z12, .ref z13, .ref z14, .ref z15, .int (nI z16), .ref z17, .int z18, .ref z19]))] ++ va_pl L M_51) := by rw [eM_51]; exact hD
  have hW : WOM cy K L M_51 := by rw [eM_51]; exact hW.up_42 hc48 ⟨_, rfl⟩
  have hF : fr K L [12, 14, 16, 30, 31, 33, 34, 41, 42, 75, 76] M M_51 := by rw [eM_51]; exact hF.up hc48 (by decide)
  have hG : fG K L [10] M M_51 := by rw [eM_51]; exact hG.arr hc48 (by decide)
  have hM_52 : M_51 v48 = .inl (cy 14, 24, .inl (upd f49 ((nI v2) : Int32).toNatClampNeg 0)) := by rw [eM_51]; exact va_up_self _ _ _
  have hM_53 : M_51 v38 = .inl (cy 14, 24, .inl (f_47)) := by rw [eM_51, va_up_ne _ _ (hc38.neT hc48 (by decide))]; exact hM_42
  have hM_54 : M_51 v29 = .inl (cy 14, 24, .inl (f_37)) := by rw [eM_51, va_up_ne _ _ (hc29.neT hc48 (by decide))]; exact hM_43
  have hM_55 : M_51 v20 = .inl (cy 14, 24, .inl (f_27)) := by rw [eM_51, va_up_ne _ _ (hc20.neT hc48 (by decide))]; exact hM_44
  have hM_56 : M_51 v12 = .inl (cy 14, 24, .inl (f_18)) := by rw [eM_51, va_up_ne _ _ (hc12.neT hc48 (by decide))]; exact hM_45
  have hM_57 : M_51 k1 = .inr (12, fs1.set 10 (.int (nI (v2 + 1)))) := by rw [eM_51, va_up_ne _ _ (ik1.neT hc48 (by decide))]; exact hM_46
  obtain ⟨f_58, ef_58⟩ : ∃ f : Nat → Int32, f = upd f49 ((nI v2) : Int32).toNatClampNeg 0 := ⟨_, rfl⟩
  rw [← ef_58] at hM_52
  clear ef_58
  refine lv_aload_n hx hb dX13_begins_57 rfl (lv_at hl 2 rfl) ?_
  obtain ⟨v59, hv59, hc59⟩ : ∃ v : Nat, (fs1.set 10 (.int (nI (v2 + 1))))[24]? = some (.ref v : Value) ∧ isk K L v 76 24 := hk_6 24 (by decide)
  refine pg_getN (D := D) (ci := 12) (v := .ref v59) (C := RX12) (T := TX12) (N := 51) hx hb hg inG12 hown hK hP ik1.1 hM_57 rfl 24 (by decide) (hN.use (Cond.fieldLinkNest RX13 118 RX12 "bears" "[I" RX13) 33 rfl rfl) (fun _ h9 => h9) hv59 dX13_begins_58 ?_
  refine lv_iload hx hb dX13_begins_61 (lv_at hl 0 rfl) ?_
  refine lv_iconst (v := 0) hx hb dX13_begins_63 (by decide) ?_
  obtain ⟨f60, hM60⟩ := hW.open_76 hc59
  refine pg_iast hx hb hK hP hD hS hc59.1 0 hM60 rfl (inbN v2 24 (by omega) (by omega)) dX13_begins_64 (fun H_61 locs hP hD hS => ?_)
  obtain ⟨M_62, eM_62⟩ : ∃ M1 : Hp, M1 = va_up M_51 v59 (.inl (cy 14, 24, .inl (upd f60 ((nI v2) : Int32).toNatClampNeg 0))) := ⟨_, rfl⟩
  have hP : va_P D vwCl ([(za, .inr (13, [.int z0, .ref z1, .int (nI z2), .int (nI z3), .int z4, .int z5, .ref z6, .ref z7, .ref z8, .ref z9, .int (nI z10), .ref z11, .ref z12, .ref z13, .ref z14, .ref z15, .int (nI z16), .ref z17, .int z18, .ref z19]))] ++ va_pl L M_62) H_61 := by rw [eM_62]; exact hP
  have hD : va_D A ([(za, .inr (13, [.int z0, .ref z1, .int (nI z2), .int (nI z3), .int z4, .int z5, .ref z6, .ref z7, .ref z8, .ref z9, .int (nI z10), .ref z11, .ref z12, .ref z13, .ref z14, .ref z15, .int (nI z16), .ref z17, .int z18, .ref z19]))] ++ va_pl L M_62) := by rw [eM_62]; exact hD
  have hW : WOM cy K L M_62 := by rw [eM_62]; exact hW.up_76 hc59 ⟨_, rfl⟩
  have hF : fr K L [12, 14, 16, 30, 31, 33, 34, 41, 42, 75, 76] M M_62 := by rw [eM_62]; exact hF.up hc59 (by decide)
  have hG : fG K L [10] M M_62 := by rw [eM_62]; exact hG.arr hc59 (by decide)
  have hM_63 : M_62 v59 = .inl (cy 14, 24, .inl (upd f60 ((nI v2) : Int32).toNatClampNeg 0)) := by rw [eM_62]; exact va_up_self _ _ _
  have hM_64 : M_62 v48 = .inl (cy 14, 24, .inl (f_58)) := by rw [eM_62, va_up_ne _ _ (hc48.neT hc59 (by decide))]; exact hM_52
  have hM_65 : M_62 v38 = .inl (cy 14, 24, .inl (f_47)) := by rw [eM_62, va_up_ne _ _ (hc38.neT hc59 (by decide))]; exact hM_53
  have hM_66 : M_62 v29 = .inl (cy 14, 24, .inl (f_37)) := by rw [eM_62, va_up_ne _ _ (hc29.neT hc59 (by decide))]; exact hM_54
  have hM_67 : M_62 v20 = .inl (cy 14, 24, .inl (f_27)) := by rw [eM_62, va_up_ne _ _ (hc20.neT hc59 (by decide))]; exact hM_55
  have hM_68 : M_62 v12 = .inl (cy 14, 24, .inl (f_18)) := by rw [eM_62, va_up_ne _ _ (hc12.neT hc59 (by decide))]; exact hM_56
  have hM_69 : M_62 k1 = .inr (12, fs1.set 10 (.int (nI (v2 + 1)))) := by rw [eM_62, va_up_ne _ _ (ik1.neT hc59 (by decide))]; exact hM_57
  obtain ⟨f_70, ef_70⟩ : ∃ f : Nat → Int32, f = upd f60 ((nI v2) : Int32).toNatClampNeg 0 := ⟨_, rfl⟩
  rw [← ef_70] at hM_63
  clear ef_70
  refine lv_aload_n hx hb dX13_begins_65 rfl (lv_at hl 2 rfl) ?_
  obtain ⟨v71, hv71, hc71⟩ : ∃ v : Nat, (fs1.set 10 (.int (nI (v2 + 1))))[25]? = some (.ref v : Value) ∧ isk K L v 34 24 := hk_6 25 (by decide)
  refine pg_getN (D := D) (ci := 12) (v := .ref v71) (C := RX12) (T := TX12) (N := 51) hx hb hg inG12 hown hK hP ik1.1 hM_69 rfl 25 (by decide) (hN.use (Cond.fieldLinkNest RX13 121 RX12 "heir" "[I" RX13) 34 rfl rfl) (fun _ h9 => h9) hv71 dX13_begins_66 ?_
  refine lv_iload hx hb dX13_begins_69 (lv_at hl 0 rfl) ?_
  refine lv_iconst (v := (-1)) hx hb dX13_begins_71 (by decide) ?_
  obtain ⟨f72, hM72, hf72⟩ := hW.open_34 hc71
  refine pg_iast hx hb hK hP hD hS hc71.1 0 hM72 rfl (inbN v2 24 (by omega) (by omega)) dX13_begins_72 (fun H_73 locs hP hD hS => ?_)
  obtain ⟨M_74, eM_74⟩ : ∃ M1 : Hp, M1 = va_up M_62 v71 (.inl (cy 14, 24, .inl (upd f72 ((nI v2) : Int32).toNatClampNeg (-1)))) := ⟨_, rfl⟩
  have hP : va_P D vwCl ([(za, .inr (13, [.int z0, .ref z1, .int (nI z2), .int (nI z3), .int z4, .int z5, .ref z6, .ref z7, .ref z8, .ref z9, .int (nI z10), .ref z11, .ref z12, .ref z13, .ref z14, .ref z15, .int (nI z16), .ref z17, .int z18, .ref z19]))] ++ va_pl L M_74) H_73 := by rw [eM_74]; exact hP
  have hD : va_D A ([(za, .inr (13, [.int z0, .ref z1, .int (nI z2), .int (nI z3), .int z4, .int z5, .ref z6, .ref z7, .ref z8, .ref z9, .int (nI z10), .ref z11, .ref z12, .ref z13, .ref z14, .ref z15, .int (nI z16), .ref z17, .int z18, .ref z19]))] ++ va_pl L M_74) := by rw [eM_74]; exact hD
  have hW : WOM cy K L M_74 := by rw [eM_74]; exact hW.up_34 hc71 ⟨_, rfl, (updP (P := fun z => (z = -1 ∨ ∃ c : Nat, c < 24 ∧ z = nI c)) hf72 (Or.inl rfl))⟩
  have hF : fr K L [12, 14, 16, 30, 31, 33, 34, 41, 42, 75, 76] M M_74 := by rw [eM_74]; exact hF.up hc71 (by decide)
  have hG : fG K L [10] M M_74 := by rw [eM_74]; exact hG.arr hc71 (by decide)
  have hM_75 : M_74 v71 = .inl (cy 14, 24, .inl (upd f72 ((nI v2) : Int32).toNatClampNeg (-1))) := by rw [eM_74]; exact va_up_self _ _ _
  have hM_76 : M_74 v59 = .inl (cy 14, 24, .inl (f_70)) := by rw [eM_74, va_up_ne _ _ (hc59.neT hc71 (by decide))]; exact hM_63
  have hM_77 : M_74 v48 = .inl (cy 14, 24, .inl (f_58)) := by rw [eM_74, va_up_ne _ _ (hc48.neT hc71 (by decide))]; exact hM_64
  have hM_78 : M_74 v38 = .inl (cy 14, 24, .inl (f_47)) := by rw [eM_74, va_up_ne _ _ (hc38.neT hc71 (by decide))]; exact hM_65
  have hM_79 : M_74 v29 = .inl (cy 14, 24, .inl (f_37)) := by rw [eM_74, va_up_ne _ _ (hc29.neT hc71 (by decide))]; exact hM_66
  have hM_80 : M_74 v20 = .inl (cy 14, 24, .inl (f_27)) := by rw [eM_74, va_up_ne _ _ (hc20.neT hc71 (by decide))]; exact hM_67
  have hM_81 : M_74 v12 = .inl (cy 14, 24, .inl (f_18)) := by rw [eM_74, va_up_ne _ _ (hc12.neT hc71 (by decide))]; exact hM_68
  have hM_82 : M_74 k1 = .inr (12, fs1.set 10 (.int (nI (v2 + 1)))) := by rw [eM_74, va_up_ne _ _ (ik1.neT hc71 (by decide))]; exact hM_69
  have hf_84 : ∀ j, j < 24 → ((upd f72 ((nI v2) : Int32).toNatClampNeg (-1)) j = -1 ∨ ∃ c : Nat, c < 24 ∧ (upd f72 ((nI v2) : Int32).toNatClampNeg (-1)) j = nI c) := (updP (P := fun z => (z = -1 ∨ ∃ c : Nat, c < 24 ∧ z = nI c)) hf72 (Or.inl rfl))
  obtain ⟨f_83, ef_83⟩ : ∃ f : Nat → Int32, f = upd f72 ((nI v2) : Int32).toNatClampNeg (-1) := ⟨_, rfl⟩
  rw [← ef_83] at hM_75 hf_84
  clear ef_83
  refine lv_aload_n hx hb dX13_begins_73 rfl (lv_at hl 2 rfl) ?_
  obtain ⟨v85, hv85, hc85⟩ : ∃ v : Nat, (fs1.set 10 (.int (nI (v2 + 1))))[26]? = some (.ref v : Value) ∧ isk K L v 16 24 := hk_6 26 (by decide)
  refine pg_getN (D := D) (ci := 12) (v := .ref v85) (C := RX12) (T := TX12) (N := 51) hx hb hg inG12 hown hK hP ik1.1 hM_82 rfl 26 (by decide) (hN.use (Cond.fieldLinkNest RX13 124 RX12 "word" "[Z" RX13) 35 rfl rfl) (fun _ h9 => h9) hv85 dX13_begins_74 ?_
  refine lv_iload hx hb dX13_begins_77 (lv_at hl 0 rfl) ?_
  refine lv_iload hx hb dX13_begins_79 (lv_at hl 6 rfl) ?_
  obtain ⟨f86, hM86, hf86⟩ := hW.open_16 hc85
  refine pg_zast hx hb hK hP hD hS hc85.1 2 hM86 rfl (inbN v2 24 (by omega) (by omega)) dX13_begins_81 (fun H_87 locs hP hD hS => ?_)
  obtain ⟨M_88, eM_88⟩ : ∃ M1 : Hp, M1 = va_up M_74 v85 (.inl (cy 16, 24, .inl (upd f86 ((nI v2) : Int32).toNatClampNeg (vp_nar .boolean k5)))) := ⟨_, rfl⟩
  have hP : va_P D vwCl ([(za, .inr (13, [.int z0, .ref z1, .int (nI z2), .int (nI z3), .int z4, .int z5, .ref z6, .ref z7, .ref z8, .ref z9, .int (nI z10), .ref z11, .ref z12, .ref z13, .ref z14, .ref z15, .int (nI z16), .ref z17, .int z18, .ref z19]))] ++ va_pl L M_88) H_87 := by rw [eM_88]; exact hP
  have hD : va_D A ([(za, .inr (13, [.int z0, .ref z1, .int (nI z2), .int (nI z3), .int z4, .int z5, .ref z6, .ref z7, .ref z8, .ref z9, .int (nI z10), .ref z11, .ref z12, .ref z13, .ref z14, .ref z15, .int (nI z16), .ref z17, .int z18, .ref z19]))] ++ va_pl L M_88) := by rw [eM_88]; exact hD
  have hW : WOM cy K L M_88 := by rw [eM_88]; exact hW.up_16 hc85 ⟨_, rfl, (updP (P := fun z => (z = 0 ∨ z = 1)) hf86 (nar01 k5))⟩
  have hF : fr K L [12, 14, 16, 30, 31, 33, 34, 41, 42, 75, 76] M M_88 := by rw [eM_88]; exact hF.up hc85 (by decide)
  have hG : fG K L [10] M M_88 := by rw [eM_88]; exact hG.arr hc85 (by decide)
  have hM_89 : M_88 v85 = .inl (cy 16, 24, .inl (upd f86 ((nI v2) : Int32).toNatClampNeg (vp_nar .boolean k5))) := by rw [eM_88]; exact va_up_self _ _ _
  have hM_90 : M_88 v71 = .inl (cy 14, 24, .inl (f_83)) := by rw [eM_88, va_up_ne _ _ (hc71.neT hc85 (by decide))]; exact hM_75
  have hM_91 : M_88 v59 = .inl (cy 14, 24, .inl (f_70)) := by rw [eM_88, va_up_ne _ _ (hc59.neT hc85 (by decide))]; exact hM_76
  have hM_92 : M_88 v48 = .inl (cy 14, 24, .inl (f_58)) := by rw [eM_88, va_up_ne _ _ (hc48.neT hc85 (by decide))]; exact hM_77
  have hM_93 : M_88 v38 = .inl (cy 14, 24, .inl (f_47)) := by rw [eM_88, va_up_ne _ _ (hc38.neT hc85 (by decide))]; exact hM_78
  have hM_94 : M_88 v29 = .inl (cy 14, 24, .inl (f_37)) := by rw [eM_88, va_up_ne _ _ (hc29.neT hc85 (by decide))]; exact hM_79
  have hM_95 : M_88 v20 = .inl (cy 14, 24, .inl (f_27)) := by rw [eM_88, va_up_ne _ _ (hc20.neT hc85 (by decide))]; exact hM_80
  have hM_96 : M_88 v12 = .inl (cy 14, 24, .inl (f_18)) := by rw [eM_88, va_up_ne _ _ (hc12.neT hc85 (by decide))]; exact hM_81
  have hM_97 : M_88 k1 = .inr (12, fs1.set 10 (.int (nI (v2 + 1)))) := by rw [eM_88, va_up_ne _ _ (ik1.neT hc85 (by decide))]; exact hM_82
  refine lv_aload_n hx hb dX13_begins_82 rfl (lv_at hl 2 rfl) ?_
  obtain ⟨v98, hv98, hc98⟩ : ∃ v : Nat, (fs1.set 10 (.int (nI (v2 + 1))))[9]? = some (.ref v : Value) ∧ isk K L v 33 6 := hk_6 9 (by decide)
  refine pg_getN (D := D) (ci := 12) (v := .ref v98) (C := RX12) (T := TX12) (N := 51) hx hb hg inG12 hown hK hP ik1.1 hM_97 rfl 9 (by decide) (hN.use (Cond.fieldLinkNest RX13 92 RX12 "seat" "[I" RX13) 18 rfl rfl) (fun _ h9 => h9) hv98 dX13_begins_83 ?_
  refine lv_iload_n hx hb dX13_begins_86 rfl (lv_at hl 3 rfl) ?_
  refine lv_iload hx hb dX13_begins_87 (lv_at hl 0 rfl) ?_
  refine lv_iconst (v := 1) hx hb dX13_begins_89 (by decide) ?_
  refine lv_iadd hx hb dX13_begins_90 ?_
  refine lv_topi (fun f_99 ef_99 => ?_)
  obtain rfl : f_99 = (nI (v2 + 1)) := ef_99.trans (nI_add v2 1)
  obtain ⟨f100, hM100, hf100⟩ := hW.open_33 hc98
  refine pg_iast hx hb hK hP hD hS hc98.1 0 hM100 rfl (inbN k2 6 (by omega) (by omega)) dX13_begins_91 (fun H_101 locs hP hD hS => ?_)
  obtain ⟨M_102, eM_102⟩ : ∃ M1 : Hp, M1 = va_up M_88 v98 (.inl (cy 14, 6, .inl (upd f100 ((nI k2) : Int32).toNatClampNeg (nI (v2 + 1))))) := ⟨_, rfl⟩
  have hP : va_P D vwCl ([(za, .inr (13, [.int z0, .ref z1, .int (nI z2), .int (nI z3), .int z4, .int z5, .ref z6, .ref z7, .ref z8, .ref z9, .int (nI z10), .ref z11, .ref z12, .ref z13, .ref z14, .ref z15, .int (nI z16), .ref z17, .int z18, .ref z19]))] ++ va_pl L M_102) H_101 := by rw [eM_102]; exact hP
  have hD : va_D A ([(za, .inr (13, [.int z0, .ref z1, .int (nI z2), .int (nI z3), .int z4, .int z5, .ref z6, .ref z7, .ref z8, .ref z9, .int (nI z10), .ref z11, .ref z12, .ref z13, .ref z14, .ref z15, .int (nI z16), .ref z17, .int z18, .ref z19]))] ++ va_pl L M_102) := by rw [eM_102]; exact hD
  have hW : WOM cy K L M_102 := by rw [eM_102]; exact hW.up_33 hc98 ⟨_, rfl, (updP (P := fun z => ((-1000000) ≤ z ∧ z ≤ 24)) hf100 (le24n (by omega)))⟩
  have hF : fr K L [12, 14, 16, 30, 31, 33, 34, 41, 42, 75, 76] M M_102 := by rw [eM_102]; exact hF.up hc98 (by decide)
  have hG : fG K L [10] M M_102 := by rw [eM_102]; exact hG.arr hc98 (by decide)
  have hM_103 : M_102 v98 = .inl (cy 14, 6, .inl (upd f100 ((nI k2) : Int32).toNatClampNeg (nI (v2 + 1)))) := by rw [eM_102]; exact va_up_self _ _ _
  have hM_104 : M_102 v71 = .inl (cy 14, 24, .inl (f_83)) := by rw [eM_102, va_up_ne _ _ (hc71.neT hc98 (by decide))]; exact hM_90
  have hM_105 : M_102 v59 = .inl (cy 14, 24, .inl (f_70)) := by rw [eM_102, va_up_ne _ _ (hc59.neT hc98 (by decide))]; exact hM_91
  have hM_106 : M_102 v48 = .inl (cy 14, 24, .inl (f_58)) := by rw [eM_102, va_up_ne _ _ (hc48.neT hc98 (by decide))]; exact hM_92
  have hM_107 : M_102 v38 = .inl (cy 14, 24, .inl (f_47)) := by rw [eM_102, va_up_ne _ _ (hc38.neT hc98 (by decide))]; exact hM_93
  have hM_108 : M_102 v29 = .inl (cy 14, 24, .inl (f_37)) := by rw [eM_102, va_up_ne _ _ (hc29.neT hc98 (by decide))]; exact hM_94
  have hM_109 : M_102 v20 = .inl (cy 14, 24, .inl (f_27)) := by rw [eM_102, va_up_ne _ _ (hc20.neT hc98 (by decide))]; exact hM_95
  have hM_110 : M_102 v12 = .inl (cy 14, 24, .inl (f_18)) := by rw [eM_102, va_up_ne _ _ (hc12.neT hc98 (by decide))]; exact hM_96
  have hM_111 : M_102 k1 = .inr (12, fs1.set 10 (.int (nI (v2 + 1)))) := by rw [eM_102, va_up_ne _ _ (ik1.neT hc98 (by decide))]; exact hM_97
  have hf_113 : ∀ j, j < 6 → ((-1000000) ≤ (upd f100 ((nI k2) : Int32).toNatClampNeg (nI (v2 + 1))) j ∧ (upd f100 ((nI k2) : Int32).toNatClampNeg (nI (v2 + 1))) j ≤ 24) := (updP (P := fun z => ((-1000000) ≤ z ∧ z ≤ 24)) hf100 (le24n (by omega)))
  obtain ⟨f_112, ef_112⟩ : ∃ f : Nat → Int32, f = upd f100 ((nI k2) : Int32).toNatClampNeg (nI (v2 + 1)) := ⟨_, rfl⟩
  rw [← ef_112] at hM_103 hf_113
  clear ef_112
  refine lv_iload hx hb dX13_begins_92 (lv_at hl 0 rfl) ?_
  rw [hQ]
  exact W.iret (v := (nI v2)) hx hb hr (fun t ht hW9 => ⟨⟨(nI v2), M_102, rfl, ⟨hW, hF, hG, ⟨v2, rfl, (by omega)⟩⟩, ⟨by rw [ht]; exact hP, hD⟩⟩, hS.F ht⟩) hS.2.2 dX13_begins_94
set_option maxHeartbeats 4000000 in
set_option maxRecDepth 100000 in
theorem r_X13_die (l : Launch) (D : va_G) (cy : Nat → ClassId) (K : Kp) (L : List Nat) (M : Hp) (sz : Nat) (za : Nat) (z0 : Int32) (z1 : Nat) (z2 : Nat) (z3 : Nat) (z4 : Int32) (z5 : Int32) (z6 : Nat) (z7 : Nat) (z8 : Nat) (z9 : Nat) (z10 : Nat) (z11 : Nat) (z12 : Nat) (z13 : Nat) (z14 : Nat) (z15 : Nat) (z16 : Nat) (z17 : Nat) (z18 : Int32) (z19 : Nat) (k1 : Int32) (k2 : Int32) (k3 : Int32) (k4 : Int32) (hW : WOM cy K L M) (i1 : isk K L z1 23 8) (b2 : z2 ≤ 8) (b3 : z3 ≤ 40) (i6 : isk K L z6 47 40) (i7 : isk K L z7 48 40) (i8 : isk K L z8 49 8) (i9 : isk K L z9 50 8) (b10 : z10 ≤ 8) (i11 : isk K L z11 32 24) (i12 : isk K L z12 14 24) (i13 : isk K L z13 15 24) (i14 : isk K L z14 15 24) (i15 : isk K L z15 15 24) (b16 : z16 ≤ 24) (i17 : isk K L z17 14 24) (i19 : isk K L z19 15 25) : Met l yX13_die (wsM yX13_die cX13_die 7 (some .int)) ({ frames := 2, cells := 0, slots := 0, locals := 43 }) (va_Pc [.ref za, .int k1, .int k2, .int k3, .int k4] (PG D cy [(za, .inr (13, [.int z0, .ref z1, .int (nI z2), .int (nI z3), .int z4, .int z5, .ref z6, .ref z7, .ref z8, .ref z9, .int (nI z10), .ref z11, .ref z12, .ref z13, .ref z14, .ref z15, .int (nI z16), .ref z17, .int z18, .ref z19]))] L M sz)) (va_Qi (fun (r : Int32) (M9 : Hp) => WOM cy K L M9 ∧ fr K L [12, 14, 16, 30, 31, 33, 34, 41, 42, 75, 76] M M9 ∧ fG K L [10] M M9 ∧ (True)) (fun M9 t => ∃ (w4 : Int32) (w5 : Int32), PQ D [(za, .inr (13, [.int 0, .ref z1, .int (nI z2), .int (nI z3), .int w4, .int w5, .ref z6, .ref z7, .ref z8, .ref z9, .int (nI z10), .ref z11, .ref z12, .ref z13, .ref z14, .ref z15, .int (nI z16), .ref z17, .int z18, .ref z19]))] L M9 (va_A ([(za, .inr (13, [.int z0, .ref z1, .int (nI z2), .int (nI z3), .int z4, .int z5, .ref z6, .ref z7, .ref z8, .ref z9, .int (nI z10), .ref z11, .ref z12, .ref z13, .ref z14, .ref z15, .int (nI z16), .ref z17, .int z18, .ref z19]))] ++ va_pl L M) sz) t) (va_A ([(za, .inr (13, [.int z0, .ref z1, .int (nI z2), .int (nI z3), .int z4, .int z5, .ref z6, .ref z7, .ref z8, .ref z9, .int (nI z10), .ref z11, .ref z12, .ref z13, .ref z14, .ref z15, .int (nI z16), .ref z17, .int z18, .ref z19]))] ++ va_pl L M) sz)) 0 0 (va_A ([(za, .inr (13, [.int z0, .ref z1, .int (nI z2), .int (nI z3), .int z4, .int z5, .ref z6, .ref z7, .ref z8, .ref z9, .int (nI z10), .ref z11, .ref z12, .ref z13, .ref z14, .ref z15, .int (nI z16), .ref z17, .int z18, .ref z19]))] ++ va_pl L M) sz) := by
  refine Met.ofW (cc := cX13_die) (maxL := 7) (ret := (some .int)) (by decide) rfl ?_
  intro p e s m args below meth c s₁ B hml hv
  obtain ⟨rfl, hsz, hP, hK, hD0, hN⟩ := hv
  have hx := B.exec
  have hb := B.bytes
  have hr := B.returns
  have hts := atoms_spec (ws := (wsM yX13_die cX13_die 7 (some .int))) B.pre
  have hg : ∀ w ∈ lw_good, w.before _ s = true := fun w h => hts w (List.mem_cons_of_mem _ h)
  have hown : s.vm.findClass RX13 = some m.cls := findClass_of_methodNamed B.named
  have hlocks := B.notSynchronized
  subst hsz
  have hD := hD0.self (sz := s.heap.size)
  generalize hAe : va_A ([(za, .inr (13, [.int z0, .ref z1, .int (nI z2), .int (nI z3), .int z4, .int z5, .ref z6, .ref z7, .ref z8, .ref z9, .int (nI z10), .ref z11, .ref z12, .ref z13, .ref z14, .ref z15, .int (nI z16), .ref z17, .int z18, .ref z19]))] ++ va_pl L M) s.heap.size = A at hD ⊢
  have hA : ∀ q : Nat, s.heap.size ≤ q → A q := fun q h => by rw [← hAe]; exact Or.inr h
  have hS : va_S A s.heap s.heap [] := va_S.rf
  have hl := lv_entry ([.ref za, .int k1, .int k2, .int k3, .int k4]) (n := 7) (Nat.le_of_ble_eq_true rfl)
  rw [lg_entry_eq]
  generalize (lg_sl ([.ref za, .int k1, .int k2, .int k3, .int k4]) ++ List.replicate (7 - (lg_sl ([.ref za, .int k1, .int k2, .int k3, .int k4])).length) Slot.unset).toArray = ls at hl ⊢
  refine W.nameQ (fun Q hQ => ?_)
  refine W.nameR (fun R hR => ?_)
  have hRf : 2 ≤ R.frames := by rw [hR]; exact Nat.le_of_ble_eq_true rfl
  have hRl : 43 ≤ R.locals := by rw [hR]; exact Nat.le_of_ble_eq_true rfl
  have hRc : 0 ≤ R.cells := by rw [hR]; exact Nat.le_of_ble_eq_true rfl
  have hRs : 0 ≤ R.slots := by rw [hR]; exact Nat.le_of_ble_eq_true rfl
  have hF : fr K L [12, 14, 16, 30, 31, 33, 34, 41, 42, 75, 76] M M := fr.rf
  have hG : fG K L [10] M M := fG.rf
  have hl : lv_has ls 7 [(0, .ref za), (1, .int k1), (2, .int k2), (3, .int k3), (4, .int k4)] := hl
  refine lv_aload_n hx hb dX13_die_0 rfl (lv_at hl 0 rfl) ?_
  refine lv_iconst (v := 0) hx hb dX13_die_1 (by decide) ?_
  refine va_put (D := D) (ci := 13) (v := .int 0) (ty := .int) (C := RX13) (T := TX13) (N := 20) hx hb hg inG13 tyX13 tyX13_ok nmX13 hown hK hP hD hS 0 rfl rfl 0 (by decide) (hg _ wd_720) (fun _ h9 => h9) rfl (by decide +kernel) rfl rfl (Nat.le_of_ble_eq_true rfl) dX13_die_2 (fun H_1 locs hP hD hS => ?_)
  have hP : va_P D vwCl ([(za, .inr (13, [.int 0, .ref z1, .int (nI z2), .int (nI z3), .int z4, .int z5, .ref z6, .ref z7, .ref z8, .ref z9, .int (nI z10), .ref z11, .ref z12, .ref z13, .ref z14, .ref z15, .int (nI z16), .ref z17, .int z18, .ref z19]))] ++ va_pl L M) H_1 := hP
  have hD : va_D A ([(za, .inr (13, [.int 0, .ref z1, .int (nI z2), .int (nI z3), .int z4, .int z5, .ref z6, .ref z7, .ref z8, .ref z9, .int (nI z10), .ref z11, .ref z12, .ref z13, .ref z14, .ref z15, .int (nI z16), .ref z17, .int z18, .ref z19]))] ++ va_pl L M) := hD
  refine lv_aload_n hx hb dX13_die_5 rfl (lv_at hl 0 rfl) ?_
  refine lv_iload_n hx hb dX13_die_6 rfl (lv_at hl 1 rfl) ?_
  refine lv_iload_n hx hb dX13_die_7 rfl (lv_at hl 2 rfl) ?_
  have hPc : va_P D vwCl ([(za, .inr (13, [.int 0, .ref z1, .int (nI z2), .int (nI z3), .int z4, .int z5, .ref z6, .ref z7, .ref z8, .ref z9, .int (nI z10), .ref z11, .ref z12, .ref z13, .ref z14, .ref z15, .int (nI z16), .ref z17, .int z18, .ref z19]))] ++ va_pl L M) H_1 := hP
  have hDc : va_D A ([(za, .inr (13, [.int 0, .ref z1, .int (nI z2), .int (nI z3), .int z4, .int z5, .ref z6, .ref z7, .ref z8, .ref z9, .int (nI z10), .ref z11, .ref z12, .ref z13, .ref z14, .ref z15, .int (nI z16), .ref z17, .int z18, .ref z19]))] ++ va_pl L M) := hD
  have hFc : ∀ q, va_A ([(za, .inr (13, [.int 0, .ref z1, .int (nI z2), .int (nI z3), .int z4, .int z5, .ref z6, .ref z7, .ref z8, .ref z9, .int (nI z10), .ref z11, .ref z12, .ref z13, .ref z14, .ref z15, .int (nI z16), .ref z17, .int z18, .ref z19]))] ++ va_pl L M) H_1.size q → A q := pg_free hDc hS hA
  refine va_calli (va_runV (As := [.int k1, .int k2]) (rest := []) ⟨hx, hb, hml, hown, hg⟩ (r_X13_isSeat l D cy K L M H_1.size za 0 z1 z2 z3 z4 z5 z6 z7 z8 z9 z10 z11 z12 z13 z14 z15 z16 z17 z18 z19 k1 k2  hW i1 b2 b3 i6 i7 i8 i9 b10 i11 i12 i13 i14 i15 b16 i17 i19) (cwV 2 hg (gV wd_744 wd_745 wd_746 wd_717 wd_747) rfl rfl rfl (by decide +kernel) ⟨(Nat.le_trans (Nat.le_of_ble_eq_true rfl) hRf), (Nat.le_trans (Nat.le_of_ble_eq_true rfl) hRl)⟩) ⟨PG.blind, va_recv hK hP (ci := 13) (q0 := 0) rfl rfl, fun U hU hW => ⟨rfl, PG.at hPc hK hDc hN hU hW⟩⟩ rfl rfl hl.1 rfl (lv_room (Nat.le_of_ble_eq_true rfl)) dX13_die_8 ⟨(Nat.le_trans (Nat.le_of_ble_eq_true rfl) hRc), (Nat.le_trans (Nat.le_of_ble_eq_true rfl) hRs)⟩) hS (fun q _ h => hFc q h) hFc (fun r_3 M_4 t H_2 locs ht hvm hw hB hz1 hk1 hS => ?_)
  have hp_5 := hw
  obtain ⟨hP1, hD1⟩ := hB
  rw [ht] at hP1
  have hP : va_P D vwCl ([(za, .inr (13, [.int 0, .ref z1, .int (nI z2), .int (nI z3), .int z4, .int z5, .ref z6, .ref z7, .ref z8, .ref z9, .int (nI z10), .ref z11, .ref z12, .ref z13, .ref z14, .ref z15, .int (nI z16), .ref z17, .int z18, .ref z19]))] ++ va_pl L M) H_2 := hP1
  have hD : va_D A ([(za, .inr (13, [.int 0, .ref z1, .int (nI z2), .int (nI z3), .int z4, .int z5, .ref z6, .ref z7, .ref z8, .ref z9, .int (nI z10), .ref z11, .ref z12, .ref z13, .ref z14, .ref z15, .int (nI z16), .ref z17, .int z18, .ref z19]))] ++ va_pl L M) := hD1.mono hFc
  rcases hp_5 with ⟨rfl, c_6, c_7, c_8, c_9⟩ | rfl
  · have hz := rfl (a := 0)
    refine lv_if_eq (tgt := 28) hx hb dX13_die_11 (by decide) (fun c_10 => absurd c_10 (by decide)) (fun _ => ?_)
    refine lv_iload hx hb dX13_die_14 (lv_at hl 4 rfl) ?_
    refine lv_if_lt (tgt := 28) hx hb dX13_die_16 (by decide) (fun c_11 => ?_) (fun c_11 => ?_)
    · have hz := rfl (a := 0)
      refine lv_aload_n hx hb dX13_die_28 rfl (lv_at hl 0 rfl) ?_
      refine lv_iconst (v := 1) hx hb dX13_die_29 (by decide) ?_
      have hPc := hP.sub (ws' := [(za, .inr (13, [.int 0, .ref z1, .int (nI z2), .int (nI z3), .int z4, .int z5, .ref z6, .ref z7, .ref z8, .ref z9, .int (nI z10), .ref z11, .ref z12, .ref z13, .ref z14, .ref z15, .int (nI z16), .ref z17, .int z18, .ref z19]))]) [0] rfl
      have hDc := hD.sub (ws' := [(za, .inr (13, [.int 0, .ref z1, .int (nI z2), .int (nI z3), .int z4, .int z5, .ref z6, .ref z7, .ref z8, .ref z9, .int (nI z10), .ref z11, .ref z12, .ref z13, .ref z14, .ref z15, .int (nI z16), .ref z17, .int z18, .ref z19]))]) [0] (by decide) rfl
      have hKc := hK.sub (tys' := []) [] rfl
      have hFc := va_free (wc := [(za, .inr (13, [.int 0, .ref z1, .int (nI z2), .int (nI z3), .int z4, .int z5, .ref z6, .ref z7, .ref z8, .ref z9, .int (nI z10), .ref z11, .ref z12, .ref z13, .ref z14, .ref z15, .int (nI z16), .ref z17, .int z18, .ref z19]))]) hD hS hA [0] rfl
      refine va_calli (va_runV (As := [.int 1]) (rest := []) ⟨hx, hb, hml, hown, hg⟩ (m_refused l D H_2.size za 0 z1 (nI z2) (nI z3) z4 z5 z6 z7 z8 z9 (nI z10) z11 z12 z13 z14 z15 (nI z16) z17 z18 z19 1) (cwV 1 hg (gV wd_725 wd_726 wd_727 wd_717 wd_728) rfl rfl rfl (by decide +kernel) ⟨(Nat.le_trans (Nat.le_of_ble_eq_true rfl) hRf), (Nat.le_trans (Nat.le_of_ble_eq_true rfl) hRl)⟩) ⟨Pr.blind, va_recv hK hP (ci := 13) (q0 := 0) rfl rfl, fun U hU hW => ⟨rfl, Pr.at hPc hKc hDc hN hU hW⟩⟩ rfl rfl hl.1 rfl (lv_room (Nat.le_of_ble_eq_true rfl)) dX13_die_30 ⟨(Nat.le_trans (Nat.le_of_ble_eq_true rfl) hRc), (Nat.le_trans (Nat.le_of_ble_eq_true rfl) hRs)⟩) hS (fun q _ h => hFc q h) hFc (fun r_13 M_14 t H_12 locs ht hvm hw hB hz1 hk1 hS => ?_)
      have hp_15 := hw
      obtain ⟨hP1, hK1, hD1⟩ := hB
      rw [ht] at hP1
      obtain ⟨hP, hD⟩ := va_joinQ (X := [(za, .inr (13, [.int 0, .ref z1, .int (nI z2), .int (nI z3), .int z4, .int z5, .ref z6, .ref z7, .ref z8, .ref z9, .int (nI z10), .ref z11, .ref z12, .ref z13, .ref z14, .ref z15, .int (nI z16), .ref z17, .int z18, .ref z19]))]) (cx := [(za, .inr (13, [.int 0, .ref z1, .int (nI z2), .int (nI z3), .int z4, .int z5, .ref z6, .ref z7, .ref z8, .ref z9, .int (nI z10), .ref z11, .ref z12, .ref z13, .ref z14, .ref z15, .int (nI z16), .ref z17, .int z18, .ref z19]))]) (wr := []) (w1 := [(za, .inr (13, [.int 0, .ref z1, .int (nI z2), .int (nI z3), .int 1, .int (-1), .ref z6, .ref z7, .ref z8, .ref z9, .int (nI z10), .ref z11, .ref z12, .ref z13, .ref z14, .ref z15, .int (nI z16), .ref z17, .int z18, .ref z19]))]) (pl := va_pl L M) hP hD [0] [] rfl rfl (by decide) (by decide) hk1 hFc hP1 hD1
      have hP : va_P D vwCl ([(za, .inr (13, [.int 0, .ref z1, .int (nI z2), .int (nI z3), .int 1, .int (-1), .ref z6, .ref z7, .ref z8, .ref z9, .int (nI z10), .ref z11, .ref z12, .ref z13, .ref z14, .ref z15, .int (nI z16), .ref z17, .int z18, .ref z19]))] ++ va_pl L M) H_12 := hP
      have hD : va_D A ([(za, .inr (13, [.int 0, .ref z1, .int (nI z2), .int (nI z3), .int 1, .int (-1), .ref z6, .ref z7, .ref z8, .ref z9, .int (nI z10), .ref z11, .ref z12, .ref z13, .ref z14, .ref z15, .int (nI z16), .ref z17, .int z18, .ref z19]))] ++ va_pl L M) := hD
      have hq := Eq.symm hp_15
      subst hq
      rw [hQ]
      exact W.iret (v := (-1)) hx hb hr (fun t ht hW9 => ⟨⟨(-1), M, rfl, ⟨hW, hF, hG, trivial⟩, ⟨1, (-1), by rw [ht]; exact hP, hD⟩⟩, hS.F ht⟩) hS.2.2 dX13_die_33
    · have hz := rfl (a := 0)
      refine lv_iload hx hb dX13_die_19 (lv_at hl 4 rfl) ?_
      refine lv_aload_n hx hb dX13_die_21 rfl (lv_at hl 0 rfl) ?_
      refine va_get (D := D) (ci := 13) (v := .int (nI z3)) (C := RX13) (T := TX13) (N := 20) hx hb hg inG13 hown hK hP 0 rfl rfl 3 (by decide) (hg _ wd_831) (fun _ h9 => h9) rfl dX13_die_22 ?_
      refine lv_icmp_lt (tgt := 34) hx hb dX13_die_25 (by decide) (fun c_16 => ?_) (fun c_16 => ?_)
      · have hz := rfl (a := 0)
        have n_17 : ¬ 40 ≤ k4 := ltB (b := 40) (by decide) (by omega) c_16
        refine lv_aload_n hx hb dX13_die_34 rfl (lv_at hl 0 rfl) ?_
        refine va_get (D := D) (ci := 13) (v := .ref z1) (C := RX13) (T := TX13) (N := 20) hx hb hg inG13 hown hK hP 0 rfl rfl 1 (by decide) (hg _ wd_739) (fun _ h9 => h9) rfl dX13_die_35 ?_
        refine lv_iload_n hx hb dX13_die_38 rfl (lv_at hl 1 rfl) ?_
        obtain ⟨f18, hM18, hf18⟩ := hW.open_23 i1
        have hi_19 : vp_in k1 8 := (inbW (a := z2) (by omega) (inb k1 z2 (by omega) c_6 c_7))
        refine pg_aldq hx hb hK hP i1.1 9 hM18 rfl hi_19 dX13_die_39 ?_
        obtain ⟨b20, eb_21, hb_22⟩ := hf18 _ (vp_lt hi_19)
        rw [eb_21]
        refine lv_astore (lv' := [(5, .ref b20), (0, .ref za), (1, .int k1), (2, .int k2), (3, .int k3), (4, .int k4)]) hx hb dX13_die_40 hl (by decide) rfl (fun ls hl => ?_)
        refine lv_aload_n hx hb dX13_die_42 rfl (lv_at hl 1 rfl) ?_
        refine lv_aload hx hb dX13_die_43 (lv_at hl 0 rfl) ?_
        refine lv_iload_n hx hb dX13_die_45 rfl (lv_at hl 3 rfl) ?_
        obtain ⟨j_23, hj_24, rfl⟩ := i32nat 6 (by decide) c_8 c_9
        have hPc : va_P D vwCl ([(za, .inr (13, [.int 0, .ref z1, .int (nI z2), .int (nI z3), .int z4, .int z5, .ref z6, .ref z7, .ref z8, .ref z9, .int (nI z10), .ref z11, .ref z12, .ref z13, .ref z14, .ref z15, .int (nI z16), .ref z17, .int z18, .ref z19]))] ++ va_pl L M) H_2 := hP
        have hDc : va_D A ([(za, .inr (13, [.int 0, .ref z1, .int (nI z2), .int (nI z3), .int z4, .int z5, .ref z6, .ref z7, .ref z8, .ref z9, .int (nI z10), .ref z11, .ref z12, .ref z13, .ref z14, .ref z15, .int (nI z16), .ref z17, .int z18, .ref z19]))] ++ va_pl L M) := hD
        have hFc : ∀ q, va_A ([(za, .inr (13, [.int 0, .ref z1, .int (nI z2), .int (nI z3), .int z4, .int z5, .ref z6, .ref z7, .ref z8, .ref z9, .int (nI z10), .ref z11, .ref z12, .ref z13, .ref z14, .ref z15, .int (nI z16), .ref z17, .int z18, .ref z19]))] ++ va_pl L M) H_2.size q → A q := pg_free hDc hS hA
        refine va_calli (va_runV (As := [.ref b20, .int (nI j_23)]) (rest := []) ⟨hx, hb, hml, hown, hg⟩ (r_X13_holder l D cy K L M H_2.size za 0 z1 z2 z3 z4 z5 z6 z7 z8 z9 z10 z11 z12 z13 z14 z15 z16 z17 z18 z19 b20 j_23  hW i1 b2 b3 i6 i7 i8 i9 b10 i11 i12 i13 i14 i15 b16 i17 i19 hb_22 (by omega)) (cwV 2 hg (gV wd_779 wd_780 wd_781 wd_717 wd_782) rfl rfl rfl (by decide +kernel) ⟨(Nat.le_trans (Nat.le_of_ble_eq_true rfl) hRf), (Nat.le_trans (Nat.le_of_ble_eq_true rfl) hRl)⟩) ⟨PG.blind, va_recv hK hP (ci := 13) (q0 := 0) rfl rfl, fun U hU hW => ⟨rfl, PG.at hPc hK hDc hN hU hW⟩⟩ rfl rfl hl.1 rfl (lv_room (Nat.le_of_ble_eq_true rfl)) dX13_die_46 ⟨(Nat.le_trans (Nat.le_of_ble_eq_true rfl) hRc), (Nat.le_trans (Nat.le_of_ble_eq_true rfl) hRs)⟩) hS (fun q _ h => hFc q h) hFc (fun r_26 M_27 t H_25 locs ht hvm hw hB hz1 hk1 hS => ?_)
        have hp_28 := hw
        obtain ⟨hP1, hD1⟩ := hB
        rw [ht] at hP1
        have hP : va_P D vwCl ([(za, .inr (13, [.int 0, .ref z1, .int (nI z2), .int (nI z3), .int z4, .int z5, .ref z6, .ref z7, .ref z8, .ref z9, .int (nI z10), .ref z11, .ref z12, .ref z13, .ref z14, .ref z15, .int (nI z16), .ref z17, .int z18, .ref z19]))] ++ va_pl L M) H_25 := hP1
        have hD : va_D A ([(za, .inr (13, [.int 0, .ref z1, .int (nI z2), .int (nI z3), .int z4, .int z5, .ref z6, .ref z7, .ref z8, .ref z9, .int (nI z10), .ref z11, .ref z12, .ref z13, .ref z14, .ref z15, .int (nI z16), .ref z17, .int z18, .ref z19]))] ++ va_pl L M) := hD1.mono hFc
        rcases hp_28 with rfl | ⟨j_29, rfl, c_30⟩
        · have hz := rfl (a := 0)
          refine lv_istore (lv' := [(6, .int (-1)), (5, .ref b20), (0, .ref za), (1, .int k1), (2, .int (nI j_23)), (3, .int k3), (4, .int k4)]) hx hb dX13_die_49 hl (by decide) rfl (fun ls hl => ?_)
          refine lv_iload hx hb dX13_die_51 (lv_at hl 0 rfl) ?_
          refine lv_iconst (v := (-1)) hx hb dX13_die_53 (by decide) ?_
          refine lv_icmp_ne (tgt := 63) hx hb dX13_die_54 (by decide) (fun c_31 => absurd c_31 (by decide)) (fun _ => ?_)
          refine lv_aload_n hx hb dX13_die_57 rfl (lv_at hl 2 rfl) ?_
          refine lv_iconst (v := 4) hx hb dX13_die_58 (by decide) ?_
          have hPc := hP.sub (ws' := [(za, .inr (13, [.int 0, .ref z1, .int (nI z2), .int (nI z3), .int z4, .int z5, .ref z6, .ref z7, .ref z8, .ref z9, .int (nI z10), .ref z11, .ref z12, .ref z13, .ref z14, .ref z15, .int (nI z16), .ref z17, .int z18, .ref z19]))]) [0] rfl
          have hDc := hD.sub (ws' := [(za, .inr (13, [.int 0, .ref z1, .int (nI z2), .int (nI z3), .int z4, .int z5, .ref z6, .ref z7, .ref z8, .ref z9, .int (nI z10), .ref z11, .ref z12, .ref z13, .ref z14, .ref z15, .int (nI z16), .ref z17, .int z18, .ref z19]))]) [0] (by decide) rfl
          have hKc := hK.sub (tys' := []) [] rfl
          have hFc := va_free (wc := [(za, .inr (13, [.int 0, .ref z1, .int (nI z2), .int (nI z3), .int z4, .int z5, .ref z6, .ref z7, .ref z8, .ref z9, .int (nI z10), .ref z11, .ref z12, .ref z13, .ref z14, .ref z15, .int (nI z16), .ref z17, .int z18, .ref z19]))]) hD hS hA [0] rfl
          refine va_calli (va_runV (As := [.int 4]) (rest := []) ⟨hx, hb, hml, hown, hg⟩ (m_refused l D H_25.size za 0 z1 (nI z2) (nI z3) z4 z5 z6 z7 z8 z9 (nI z10) z11 z12 z13 z14 z15 (nI z16) z17 z18 z19 4) (cwV 1 hg (gV wd_725 wd_726 wd_727 wd_717 wd_728) rfl rfl rfl (by decide +kernel) ⟨(Nat.le_trans (Nat.le_of_ble_eq_true rfl) hRf), (Nat.le_trans (Nat.le_of_ble_eq_true rfl) hRl)⟩) ⟨Pr.blind, va_recv hK hP (ci := 13) (q0 := 0) rfl rfl, fun U hU hW => ⟨rfl, Pr.at hPc hKc hDc hN hU hW⟩⟩ rfl rfl hl.1 rfl (lv_room (Nat.le_of_ble_eq_true rfl)) dX13_die_59 ⟨(Nat.le_trans (Nat.le_of_ble_eq_true rfl) hRc), (Nat.le_trans (Nat.le_of_ble_eq_true rfl) hRs)⟩) hS (fun q _ h => hFc q h) hFc (fun r_33 M_34 t H_32 locs ht hvm hw hB hz1 hk1 hS => ?_)
          have hp_35 := hw
          obtain ⟨hP1, hK1, hD1⟩ := hB
          rw [ht] at hP1
          obtain ⟨hP, hD⟩ := va_joinQ (X := [(za, .inr (13, [.int 0, .ref z1, .int (nI z2), .int (nI z3), .int z4, .int z5, .ref z6, .ref z7, .ref z8, .ref z9, .int (nI z10), .ref z11, .ref z12, .ref z13, .ref z14, .ref z15, .int (nI z16), .ref z17, .int z18, .ref z19]))]) (cx := [(za, .inr (13, [.int 0, .ref z1, .int (nI z2), .int (nI z3), .int z4, .int z5, .ref z6, .ref z7, .ref z8, .ref z9, .int (nI z10), .ref z11, .ref z12, .ref z13, .ref z14, .ref z15, .int (nI z16), .ref z17, .int z18, .ref z19]))]) (wr := []) (w1 := [(za, .inr (13, [.int 0, .ref z1, .int (nI z2), .int (nI z3), .int 4, .int (-1), .ref z6, .ref z7, .ref z8, .ref z9, .int (nI z10), .ref z11, .ref z12, .ref z13, .ref z14, .ref z15, .int (nI z16), .ref z17, .int z18, .ref z19]))]) (pl := va_pl L M) hP hD [0] [] rfl rfl (by decide) (by decide) hk1 hFc hP1 hD1
          have hP : va_P D vwCl ([(za, .inr (13, [.int 0, .ref z1, .int (nI z2), .int (nI z3), .int 4, .int (-1), .ref z6, .ref z7, .ref z8, .ref z9, .int (nI z10), .ref z11, .ref z12, .ref z13, .ref z14, .ref z15, .int (nI z16), .ref z17, .int z18, .ref z19]))] ++ va_pl L M) H_32 := hP
          have hD : va_D A ([(za, .inr (13, [.int 0, .ref z1, .int (nI z2), .int (nI z3), .int 4, .int (-1), .ref z6, .ref z7, .ref z8, .ref z9, .int (nI z10), .ref z11, .ref z12, .ref z13, .ref z14, .ref z15, .int (nI z16), .ref z17, .int z18, .ref z19]))] ++ va_pl L M) := hD
          have hq := Eq.symm hp_35
          subst hq
          rw [hQ]
          exact W.iret (v := (-1)) hx hb hr (fun t ht hW9 => ⟨⟨(-1), M, rfl, ⟨hW, hF, hG, trivial⟩, ⟨4, (-1), by rw [ht]; exact hP, hD⟩⟩, hS.F ht⟩) hS.2.2 dX13_die_62
        · have hz := rfl (a := 0)
          refine lv_istore (lv' := [(6, .int (nI j_29)), (5, .ref b20), (0, .ref za), (1, .int k1), (2, .int (nI j_23)), (3, .int k3), (4, .int k4)]) hx hb dX13_die_49 hl (by decide) rfl (fun ls hl => ?_)
          refine lv_iload hx hb dX13_die_51 (lv_at hl 0 rfl) ?_
          refine lv_iconst (v := (-1)) hx hb dX13_die_53 (by decide) ?_
          refine lv_icmp_ne (tgt := 63) hx hb dX13_die_54 (by decide) (fun _ => ?_) (fun c_36 => absurd c_36 (nI_ne_m1 (by omega)))
          refine lv_aload_n hx hb dX13_die_63 rfl (lv_at hl 2 rfl) ?_
          refine va_get (D := D) (ci := 13) (v := .ref z6) (C := RX13) (T := TX13) (N := 20) hx hb hg inG13 hown hK hP 0 rfl rfl 6 (by decide) (hg _ wd_719) (fun _ h9 => h9) rfl dX13_die_64 ?_
          refine lv_iload hx hb dX13_die_67 (lv_at hl 6 rfl) ?_
          obtain ⟨f37, hM37, hf37⟩ := hW.open_47 i6
          have hi_38 : vp_in k4 40 := (inb k4 40 (by omega) c_11 n_17)
          refine pg_iald hx hb hK hP i6.1 0 hM37 rfl hi_38 dX13_die_69 ?_
          have hp_39 := hf37 _ (vp_lt hi_38)
          obtain ⟨c_40, hc_41, ec_42⟩ := hp_39
          rw [ec_42]
          refine lv_iconst (v := 4) hx hb dX13_die_70 (by decide) ?_
          refine lv_icmp_eq (tgt := 80) hx hb dX13_die_71 (by decide) (fun c_43 => ?_) (fun c_43 => ?_)
          · have hz := rfl (a := 0)
            have n_44 : c_40 = 4 := (iEQ (a := c_40) (b := 4) (by omega) (by omega)).mp c_43
            refine lv_aload hx hb dX13_die_80 (lv_at hl 1 rfl) ?_
            refine lv_iload_n hx hb dX13_die_82 rfl (lv_at hl 5 rfl) ?_
            obtain ⟨fs45, hM45, hn45, hl45⟩ := hW.open_12 hb_22
            have hPc : va_P D vwCl ([] ++ va_pl L M) H_25 := hP.part (cx := []) [] rfl
            have hDc : va_D A ([] ++ va_pl L M) := hD.part (cx := []) [] (by decide) rfl
            have hFc : ∀ q, va_A ([] ++ va_pl L M) H_25.size q → A q := pg_free hDc hS hA
            refine va_calli (va_runV (As := [.int k3]) (rest := []) ⟨hx, hb, hml, hown, hg⟩ (r_X12_isFree l D cy K L M H_25.size b20 k3  hW hb_22) (cwV 1 hg (gV wd_807 wd_808 wd_809 wd_737 wd_810) rfl rfl rfl (by decide +kernel) ⟨(Nat.le_trans (Nat.le_of_ble_eq_true rfl) hRf), (Nat.le_trans (Nat.le_of_ble_eq_true rfl) hRl)⟩) ⟨PG.blind, pg_recv hK hP hb_22.1 hM45 rfl, fun U hU hW => ⟨rfl, PG.at hPc hK hDc hN hU hW⟩⟩ rfl rfl hl.1 rfl (lv_room (Nat.le_of_ble_eq_true rfl)) dX13_die_83 ⟨(Nat.le_trans (Nat.le_of_ble_eq_true rfl) hRc), (Nat.le_trans (Nat.le_of_ble_eq_true rfl) hRs)⟩) hS (fun q _ h => hFc q h) hFc (fun r_47 M_48 t H_46 locs ht hvm hw hB hz1 hk1 hS => ?_)
            have hp_49 := hw
            obtain ⟨hP1, hD1⟩ := hB
            rw [ht] at hP1
            obtain ⟨hP, hD⟩ := va_joinP (X := [(za, .inr (13, [.int 0, .ref z1, .int (nI z2), .int (nI z3), .int z4, .int z5, .ref z6, .ref z7, .ref z8, .ref z9, .int (nI z10), .ref z11, .ref z12, .ref z13, .ref z14, .ref z15, .int (nI z16), .ref z17, .int z18, .ref z19]))]) (cx := []) (wr := [(za, .inr (13, [.int 0, .ref z1, .int (nI z2), .int (nI z3), .int z4, .int z5, .ref z6, .ref z7, .ref z8, .ref z9, .int (nI z10), .ref z11, .ref z12, .ref z13, .ref z14, .ref z15, .int (nI z16), .ref z17, .int z18, .ref z19]))]) (rx := []) (pl := va_pl L M) (pl1 := va_pl L M) hP hD [] [0] rfl rfl (by decide) (by decide) hk1 hFc hP1 hD1
            have hP : va_P D vwCl ([(za, .inr (13, [.int 0, .ref z1, .int (nI z2), .int (nI z3), .int z4, .int z5, .ref z6, .ref z7, .ref z8, .ref z9, .int (nI z10), .ref z11, .ref z12, .ref z13, .ref z14, .ref z15, .int (nI z16), .ref z17, .int z18, .ref z19]))] ++ va_pl L M) H_46 := hP
            have hD : va_D A ([(za, .inr (13, [.int 0, .ref z1, .int (nI z2), .int (nI z3), .int z4, .int z5, .ref z6, .ref z7, .ref z8, .ref z9, .int (nI z10), .ref z11, .ref z12, .ref z13, .ref z14, .ref z15, .int (nI z16), .ref z17, .int z18, .ref z19]))] ++ va_pl L M) := hD
            rcases hp_49 with ⟨rfl, c_50, c_51⟩ | rfl
            · have hz := rfl (a := 0)
              refine lv_if_eq (tgt := 101) hx hb dX13_die_86 (by decide) (fun c_52 => absurd c_52 (by decide)) (fun _ => ?_)
              refine lv_iload_n hx hb dX13_die_89 rfl (lv_at hl 5 rfl) ?_
              refine lv_aload hx hb dX13_die_90 (lv_at hl 1 rfl) ?_
              obtain ⟨v53, hv53, hc53⟩ : ∃ v : Nat, fs45[21]? = some (.ref v : Value) ∧ isk K L v 75 24 := hl45 21 (by decide)
              refine pg_getN (D := D) (ci := 12) (v := .ref v53) (C := RX12) (T := TX12) (N := 51) hx hb hg inG12 hown hK hP hb_22.1 hM45 rfl 21 (by decide) (hN.use (Cond.fieldLinkNest RX13 112 RX12 "begin" "[I" RX13) 30 rfl rfl) (fun _ h9 => h9) hv53 dX13_die_92 ?_
              refine lv_iload hx hb dX13_die_95 (lv_at hl 0 rfl) ?_
              obtain ⟨f54, hM54⟩ := hW.open_75 hc53
              refine pg_iald hx hb hK hP hc53.1 0 hM54 rfl (inbN j_29 24 (by omega) (by omega)) dX13_die_97 ?_
              refine lv_topi (fun f_55 ef_55 => ?_)
              refine lv_icmp_gt (tgt := 107) hx hb dX13_die_98 (by decide) (fun c_56 => ?_) (fun c_56 => ?_)
              · have hz := rfl (a := 0)
                refine lv_aload hx hb dX13_die_107 (lv_at hl 1 rfl) ?_
                obtain ⟨v57, hv57, hc57⟩ : ∃ v : Nat, fs45[10]? = some (.int (nI v) : Value) ∧ v ≤ 24 := hl45 10 (by decide)
                refine pg_getN (D := D) (ci := 12) (v := .int (nI v57)) (C := RX12) (T := TX12) (N := 51) hx hb hg inG12 hown hK hP hb_22.1 hM45 rfl 10 (by decide) (hN.use (Cond.fieldLinkNest RX13 68 RX12 "tenures" "I" RX13) 19 rfl rfl) (fun _ h9 => h9) hv57 dX13_die_109 ?_
                refine lv_bipush (v := 24) hx hb dX13_die_112 (by decide) ?_
                refine lv_icmp_ne (tgt := 124) hx hb dX13_die_114 (by decide) (fun c_58 => ?_) (fun c_58 => ?_)
                · have hz := rfl (a := 0)
                  have n_59 : ¬ (v57 = 24) := fun q => c_58 ((iEQ (a := v57) (b := 24) (by omega) (by omega)).mpr q)
                  refine lv_aload hx hb dX13_die_124 (lv_at hl 1 rfl) ?_
                  obtain ⟨v60, hv60, hc60⟩ : ∃ v : Nat, fs45[22]? = some (.ref v : Value) ∧ isk K L v 41 24 := hl45 22 (by decide)
                  refine pg_getN (D := D) (ci := 12) (v := .ref v60) (C := RX12) (T := TX12) (N := 51) hx hb hg inG12 hown hK hP hb_22.1 hM45 rfl 22 (by decide) (hN.use (Cond.fieldLinkNest RX13 95 RX12 "ended" "[I" RX13) 31 rfl rfl) (fun _ h9 => h9) hv60 dX13_die_126 ?_
                  refine lv_iload hx hb dX13_die_129 (lv_at hl 0 rfl) ?_
                  refine lv_iload_n hx hb dX13_die_131 rfl (lv_at hl 5 rfl) ?_
                  obtain ⟨f61, hM61⟩ := hW.open_41 hc60
                  refine pg_iast hx hb hK hP hD hS hc60.1 0 hM61 rfl (inbN j_29 24 (by omega) (by omega)) dX13_die_132 (fun H_62 locs hP hD hS => ?_)
                  obtain ⟨M_63, eM_63⟩ : ∃ M1 : Hp, M1 = va_up M v60 (.inl (cy 14, 24, .inl (upd f61 ((nI j_29) : Int32).toNatClampNeg k3))) := ⟨_, rfl⟩
                  have hP : va_P D vwCl ([(za, .inr (13, [.int 0, .ref z1, .int (nI z2), .int (nI z3), .int z4, .int z5, .ref z6, .ref z7, .ref z8, .ref z9, .int (nI z10), .ref z11, .ref z12, .ref z13, .ref z14, .ref z15, .int (nI z16), .ref z17, .int z18, .ref z19]))] ++ va_pl L M_63) H_62 := by rw [eM_63]; exact hP
                  have hD : va_D A ([(za, .inr (13, [.int 0, .ref z1, .int (nI z2), .int (nI z3), .int z4, .int z5, .ref z6, .ref z7, .ref z8, .ref z9, .int (nI z10), .ref z11, .ref z12, .ref z13, .ref z14, .ref z15, .int (nI z16), .ref z17, .int z18, .ref z19]))] ++ va_pl L M_63) := by rw [eM_63]; exact hD
                  have hW : WOM cy K L M_63 := by rw [eM_63]; exact hW.up_41 hc60 ⟨_, rfl⟩
                  have hF : fr K L [12, 14, 16, 30, 31, 33, 34, 41, 42, 75, 76] M M_63 := by rw [eM_63]; exact hF.up hc60 (by decide)
                  have hG : fG K L [10] M M_63 := by rw [eM_63]; exact hG.arr hc60 (by decide)
                  have hM_64 : M_63 v60 = .inl (cy 14, 24, .inl (upd f61 ((nI j_29) : Int32).toNatClampNeg k3)) := by rw [eM_63]; exact va_up_self _ _ _
                  have hM_65 : M_63 z1 = .inl (cy 23, 8, .inr (.inr (.inr (.inr (f18))))) := by rw [eM_63, va_up_ne _ _ (i1.neT hc60 (by decide))]; exact hM18
                  have hM_66 : M_63 z6 = .inl (cy 14, 40, .inl (f37)) := by rw [eM_63, va_up_ne _ _ (i6.neT hc60 (by decide))]; exact hM37
                  have hM_67 : M_63 b20 = .inr (12, fs45) := by rw [eM_63, va_up_ne _ _ (hb_22.neT hc60 (by decide))]; exact hM45
                  have hM_68 : M_63 v53 = .inl (cy 14, 24, .inl (f54)) := by rw [eM_63, va_up_ne _ _ (hc53.neT hc60 (by decide))]; exact hM54
                  obtain ⟨f_69, ef_69⟩ : ∃ f : Nat → Int32, f = upd f61 ((nI j_29) : Int32).toNatClampNeg k3 := ⟨_, rfl⟩
                  rw [← ef_69] at hM_64
                  clear ef_69
                  refine lv_aload hx hb dX13_die_133 (lv_at hl 1 rfl) ?_
                  obtain ⟨v70, hv70, hc70⟩ : ∃ v : Nat, fs45[23]? = some (.ref v : Value) ∧ isk K L v 42 24 := hl45 23 (by decide)
                  refine pg_getN (D := D) (ci := 12) (v := .ref v70) (C := RX12) (T := TX12) (N := 51) hx hb hg inG12 hown hK hP hb_22.1 hM_67 rfl 23 (by decide) (hN.use (Cond.fieldLinkNest RX13 115 RX12 "instalments" "[I" RX13) 32 rfl rfl) (fun _ h9 => h9) hv70 dX13_die_135 ?_
                  refine lv_iload hx hb dX13_die_138 (lv_at hl 0 rfl) ?_
                  refine lv_iconst (v := 1) hx hb dX13_die_140 (by decide) ?_
                  obtain ⟨f71, hM71⟩ := hW.open_42 hc70
                  refine pg_iast hx hb hK hP hD hS hc70.1 0 hM71 rfl (inbN j_29 24 (by omega) (by omega)) dX13_die_141 (fun H_72 locs hP hD hS => ?_)
                  obtain ⟨M_73, eM_73⟩ : ∃ M1 : Hp, M1 = va_up M_63 v70 (.inl (cy 14, 24, .inl (upd f71 ((nI j_29) : Int32).toNatClampNeg 1))) := ⟨_, rfl⟩
                  have hP : va_P D vwCl ([(za, .inr (13, [.int 0, .ref z1, .int (nI z2), .int (nI z3), .int z4, .int z5, .ref z6, .ref z7, .ref z8, .ref z9, .int (nI z10), .ref z11, .ref z12, .ref z13, .ref z14, .ref z15, .int (nI z16), .ref z17, .int z18, .ref z19]))] ++ va_pl L M_73) H_72 := by rw [eM_73]; exact hP
                  have hD : va_D A ([(za, .inr (13, [.int 0, .ref z1, .int (nI z2), .int (nI z3), .int z4, .int z5, .ref z6, .ref z7, .ref z8, .ref z9, .int (nI z10), .ref z11, .ref z12, .ref z13, .ref z14, .ref z15, .int (nI z16), .ref z17, .int z18, .ref z19]))] ++ va_pl L M_73) := by rw [eM_73]; exact hD
                  have hW : WOM cy K L M_73 := by rw [eM_73]; exact hW.up_42 hc70 ⟨_, rfl⟩
                  have hF : fr K L [12, 14, 16, 30, 31, 33, 34, 41, 42, 75, 76] M M_73 := by rw [eM_73]; exact hF.up hc70 (by decide)
                  have hG : fG K L [10] M M_73 := by rw [eM_73]; exact hG.arr hc70 (by decide)
                  have hM_74 : M_73 v70 = .inl (cy 14, 24, .inl (upd f71 ((nI j_29) : Int32).toNatClampNeg 1)) := by rw [eM_73]; exact va_up_self _ _ _
                  have hM_75 : M_73 v60 = .inl (cy 14, 24, .inl (f_69)) := by rw [eM_73, va_up_ne _ _ (hc60.neT hc70 (by decide))]; exact hM_64
                  have hM_76 : M_73 z1 = .inl (cy 23, 8, .inr (.inr (.inr (.inr (f18))))) := by rw [eM_73, va_up_ne _ _ (i1.neT hc70 (by decide))]; exact hM_65
                  have hM_77 : M_73 z6 = .inl (cy 14, 40, .inl (f37)) := by rw [eM_73, va_up_ne _ _ (i6.neT hc70 (by decide))]; exact hM_66
                  have hM_78 : M_73 b20 = .inr (12, fs45) := by rw [eM_73, va_up_ne _ _ (hb_22.neT hc70 (by decide))]; exact hM_67
                  have hM_79 : M_73 v53 = .inl (cy 14, 24, .inl (f54)) := by rw [eM_73, va_up_ne _ _ (hc53.neT hc70 (by decide))]; exact hM_68
                  obtain ⟨f_80, ef_80⟩ : ∃ f : Nat → Int32, f = upd f71 ((nI j_29) : Int32).toNatClampNeg 1 := ⟨_, rfl⟩
                  rw [← ef_80] at hM_74
                  clear ef_80
                  refine lv_aload hx hb dX13_die_142 (lv_at hl 1 rfl) ?_
                  obtain ⟨v81, hv81, hc81⟩ : ∃ v : Nat, fs45[24]? = some (.ref v : Value) ∧ isk K L v 76 24 := hl45 24 (by decide)
                  refine pg_getN (D := D) (ci := 12) (v := .ref v81) (C := RX12) (T := TX12) (N := 51) hx hb hg inG12 hown hK hP hb_22.1 hM_78 rfl 24 (by decide) (hN.use (Cond.fieldLinkNest RX13 118 RX12 "bears" "[I" RX13) 33 rfl rfl) (fun _ h9 => h9) hv81 dX13_die_144 ?_
                  refine lv_iload hx hb dX13_die_147 (lv_at hl 0 rfl) ?_
                  refine lv_iconst (v := 0) hx hb dX13_die_149 (by decide) ?_
                  obtain ⟨f82, hM82⟩ := hW.open_76 hc81
                  refine pg_iast hx hb hK hP hD hS hc81.1 0 hM82 rfl (inbN j_29 24 (by omega) (by omega)) dX13_die_150 (fun H_83 locs hP hD hS => ?_)
                  obtain ⟨M_84, eM_84⟩ : ∃ M1 : Hp, M1 = va_up M_73 v81 (.inl (cy 14, 24, .inl (upd f82 ((nI j_29) : Int32).toNatClampNeg 0))) := ⟨_, rfl⟩
                  have hP : va_P D vwCl ([(za, .inr (13, [.int 0, .ref z1, .int (nI z2), .int (nI z3), .int z4, .int z5, .ref z6, .ref z7, .ref z8, .ref z9, .int (nI z10), .ref z11, .ref z12, .ref z13, .ref z14, .ref z15, .int (nI z16), .ref z17, .int z18, .ref z19]))] ++ va_pl L M_84) H_83 := by rw [eM_84]; exact hP
                  have hD : va_D A ([(za, .inr (13, [.int 0, .ref z1, .int (nI z2), .int (nI z3), .int z4, .int z5, .ref z6, .ref z7, .ref z8, .ref z9, .int (nI z10), .ref z11, .ref z12, .ref z13, .ref z14, .ref z15, .int (nI z16), .ref z17, .int z18, .ref z19]))] ++ va_pl L M_84) := by rw [eM_84]; exact hD
                  have hW : WOM cy K L M_84 := by rw [eM_84]; exact hW.up_76 hc81 ⟨_, rfl⟩
                  have hF : fr K L [12, 14, 16, 30, 31, 33, 34, 41, 42, 75, 76] M M_84 := by rw [eM_84]; exact hF.up hc81 (by decide)
                  have hG : fG K L [10] M M_84 := by rw [eM_84]; exact hG.arr hc81 (by decide)
                  have hM_85 : M_84 v81 = .inl (cy 14, 24, .inl (upd f82 ((nI j_29) : Int32).toNatClampNeg 0)) := by rw [eM_84]; exact va_up_self _ _ _
                  have hM_86 : M_84 v70 = .inl (cy 14, 24, .inl (f_80)) := by rw [eM_84, va_up_ne _ _ (hc70.neT hc81 (by decide))]; exact hM_74
                  have hM_87 : M_84 v60 = .inl (cy 14, 24, .inl (f_69)) := by rw [eM_84, va_up_ne _ _ (hc60.neT hc81 (by decide))]; exact hM_75
                  have hM_88 : M_84 z1 = .inl (cy 23, 8, .inr (.inr (.inr (.inr (f18))))) := by rw [eM_84, va_up_ne _ _ (i1.neT hc81 (by decide))]; exact hM_76
                  have hM_89 : M_84 z6 = .inl (cy 14, 40, .inl (f37)) := by rw [eM_84, va_up_ne _ _ (i6.neT hc81 (by decide))]; exact hM_77
                  have hM_90 : M_84 b20 = .inr (12, fs45) := by rw [eM_84, va_up_ne _ _ (hb_22.neT hc81 (by decide))]; exact hM_78
                  have hM_91 : M_84 v53 = .inl (cy 14, 24, .inl (f54)) := by rw [eM_84, va_up_ne _ _ (hc53.neT hc81 (by decide))]; exact hM_79
                  obtain ⟨f_92, ef_92⟩ : ∃ f : Nat → Int32, f = upd f82 ((nI j_29) : Int32).toNatClampNeg 0 := ⟨_, rfl⟩
                  rw [← ef_92] at hM_85
                  clear ef_92
                  refine lv_aload hx hb dX13_die_151 (lv_at hl 1 rfl) ?_
                  obtain ⟨v93, hv93, hc93⟩ : ∃ v : Nat, fs45[25]? = some (.ref v : Value) ∧ isk K L v 34 24 := hl45 25 (by decide)
                  refine pg_getN (D := D) (ci := 12) (v := .ref v93) (C := RX12) (T := TX12) (N := 51) hx hb hg inG12 hown hK hP hb_22.1 hM_90 rfl 25 (by decide) (hN.use (Cond.fieldLinkNest RX13 121 RX12 "heir" "[I" RX13) 34 rfl rfl) (fun _ h9 => h9) hv93 dX13_die_153 ?_
                  refine lv_iload hx hb dX13_die_156 (lv_at hl 0 rfl) ?_
                  refine lv_aload_n hx hb dX13_die_158 rfl (lv_at hl 2 rfl) ?_
                  refine lv_aload hx hb dX13_die_159 (lv_at hl 1 rfl) ?_
                  refine lv_iload_n hx hb dX13_die_161 rfl (lv_at hl 4 rfl) ?_
                  refine lv_iload hx hb dX13_die_162 (lv_at hl 6 rfl) ?_
                  refine lv_iload_n hx hb dX13_die_164 rfl (lv_at hl 5 rfl) ?_
                  refine lv_iconst (v := 0) hx hb dX13_die_165 (by decide) ?_
                  obtain ⟨j_94, hj_95, rfl⟩ := i32nat 40 (by decide) c_11 n_17
                  have hPc : va_P D vwCl ([(za, .inr (13, [.int 0, .ref z1, .int (nI z2), .int (nI z3), .int z4, .int z5, .ref z6, .ref z7, .ref z8, .ref z9, .int (nI z10), .ref z11, .ref z12, .ref z13, .ref z14, .ref z15, .int (nI z16), .ref z17, .int z18, .ref z19]))] ++ va_pl L M_84) H_83 := hP
                  have hDc : va_D A ([(za, .inr (13, [.int 0, .ref z1, .int (nI z2), .int (nI z3), .int z4, .int z5, .ref z6, .ref z7, .ref z8, .ref z9, .int (nI z10), .ref z11, .ref z12, .ref z13, .ref z14, .ref z15, .int (nI z16), .ref z17, .int z18, .ref z19]))] ++ va_pl L M_84) := hD
                  have hFc : ∀ q, va_A ([(za, .inr (13, [.int 0, .ref z1, .int (nI z2), .int (nI z3), .int z4, .int z5, .ref z6, .ref z7, .ref z8, .ref z9, .int (nI z10), .ref z11, .ref z12, .ref z13, .ref z14, .ref z15, .int (nI z16), .ref z17, .int z18, .ref z19]))] ++ va_pl L M_84) H_83.size q → A q := pg_free hDc hS hA
                  refine va_calli (va_runV (As := [.ref b20, .int (nI j_23), .int (nI j_94), .int k3, .int 0]) (rest := [.int (nI j_29), .ref v93]) ⟨hx, hb, hml, hown, hg⟩ (r_X13_begins l D cy K L M_84 H_83.size za 0 z1 z2 z3 z4 z5 z6 z7 z8 z9 z10 z11 z12 z13 z14 z15 z16 z17 z18 z19 b20 j_23 j_94 k3 0  hW i1 b2 b3 i6 i7 i8 i9 b10 i11 i12 i13 i14 i15 b16 i17 i19 hb_22 (by omega) (by omega) ⟨_, _, hM_90, hv57, by omega⟩) (cwV 5 hg (gV wd_832 wd_833 wd_834 wd_717 wd_835) rfl rfl rfl (by decide +kernel) ⟨(Nat.le_trans (Nat.le_of_ble_eq_true rfl) hRf), (Nat.le_trans (Nat.le_of_ble_eq_true rfl) hRl)⟩) ⟨PG.blind, va_recv hK hP (ci := 13) (q0 := 0) rfl rfl, fun U hU hW => ⟨rfl, PG.at hPc hK hDc hN hU hW⟩⟩ rfl rfl hl.1 rfl (lv_room (Nat.le_of_ble_eq_true rfl)) dX13_die_166 ⟨(Nat.le_trans (Nat.le_of_ble_eq_true rfl) hRc), (Nat.le_trans (Nat.le_of_ble_eq_true rfl) hRs)⟩) hS (fun q _ h => hFc q h) hFc (fun r_97 M_98 t H_96 locs ht hvm hw hB hz1 hk1 hS => ?_)
                  have hWb := hW
                  obtain ⟨hW, hF2, hG2, hp_99⟩ := hw
                  obtain ⟨hP1, hD1⟩ := hB
                  rw [ht] at hP1
                  have hP : va_P D vwCl ([(za, .inr (13, [.int 0, .ref z1, .int (nI z2), .int (nI z3), .int z4, .int z5, .ref z6, .ref z7, .ref z8, .ref z9, .int (nI z10), .ref z11, .ref z12, .ref z13, .ref z14, .ref z15, .int (nI z16), .ref z17, .int z18, .ref z19]))] ++ va_pl L M_98) H_96 := hP1
                  have hD : va_D A ([(za, .inr (13, [.int 0, .ref z1, .int (nI z2), .int (nI z3), .int z4, .int z5, .ref z6, .ref z7, .ref z8, .ref z9, .int (nI z10), .ref z11, .ref z12, .ref z13, .ref z14, .ref z15, .int (nI z16), .ref z17, .int z18, .ref z19]))] ++ va_pl L M_98) := hD1.mono hFc
                  have hM_100 : M_98 z1 = .inl (cy 23, 8, .inr (.inr (.inr (.inr (f18))))) := (hF2.at i1 (by decide)).trans hM_88
                  have hM_101 : M_98 z6 = .inl (cy 14, 40, .inl (f37)) := (hF2.at i6 (by decide)).trans hM_89
                  have hF : fr K L [12, 14, 16, 30, 31, 33, 34, 41, 42, 75, 76] M M_98 := hF.tr hF2 (by decide)
                  have hG : fG K L [10] M M_98 := hG.tr hWb hG2 (by decide)
                  obtain ⟨j_102, rfl, c_103⟩ := hp_99
                  obtain ⟨f104, hM104, hf104⟩ := hW.open_34 hc93
                  refine pg_iast hx hb hK hP hD hS hc93.1 0 hM104 rfl (inbN j_29 24 (by omega) (by omega)) dX13_die_169 (fun H_105 locs hP hD hS => ?_)
                  obtain ⟨M_106, eM_106⟩ : ∃ M1 : Hp, M1 = va_up M_98 v93 (.inl (cy 14, 24, .inl (upd f104 ((nI j_29) : Int32).toNatClampNeg (nI j_102)))) := ⟨_, rfl⟩
                  have hP : va_P D vwCl ([(za, .inr (13, [.int 0, .ref z1, .int (nI z2), .int (nI z3), .int z4, .int z5, .ref z6, .ref z7, .ref z8, .ref z9, .int (nI z10), .ref z11, .ref z12, .ref z13, .ref z14, .ref z15, .int (nI z16), .ref z17, .int z18, .ref z19]))] ++ va_pl L M_106) H_105 := by rw [eM_106]; exact hP
                  have hD : va_D A ([(za, .inr (13, [.int 0, .ref z1, .int (nI z2), .int (nI z3), .int z4, .int z5, .ref z6, .ref z7, .ref z8, .ref z9, .int (nI z10), .ref z11, .ref z12, .ref z13, .ref z14, .ref z15, .int (nI z16), .ref z17, .int z18, .ref z19]))] ++ va_pl L M_106) := by rw [eM_106]; exact hD
                  have hW : WOM cy K L M_106 := by rw [eM_106]; exact hW.up_34 hc93 ⟨_, rfl, (updP (P := fun z => (z = -1 ∨ ∃ c : Nat, c < 24 ∧ z = nI c)) hf104 (Or.inr ⟨j_102, by omega, rfl⟩))⟩
                  have hF : fr K L [12, 14, 16, 30, 31, 33, 34, 41, 42, 75, 76] M M_106 := by rw [eM_106]; exact hF.up hc93 (by decide)
                  have hG : fG K L [10] M M_106 := by rw [eM_106]; exact hG.arr hc93 (by decide)
                  have hM_107 : M_106 v93 = .inl (cy 14, 24, .inl (upd f104 ((nI j_29) : Int32).toNatClampNeg (nI j_102))) := by rw [eM_106]; exact va_up_self _ _ _
                  have hM_108 : M_106 z1 = .inl (cy 23, 8, .inr (.inr (.inr (.inr (f18))))) := by rw [eM_106, va_up_ne _ _ (i1.neT hc93 (by decide))]; exact hM_100
                  have hM_109 : M_106 z6 = .inl (cy 14, 40, .inl (f37)) := by rw [eM_106, va_up_ne _ _ (i6.neT hc93 (by decide))]; exact hM_101
                  have hf_111 : ∀ j, j < 24 → ((upd f104 ((nI j_29) : Int32).toNatClampNeg (nI j_102)) j = -1 ∨ ∃ c : Nat, c < 24 ∧ (upd f104 ((nI j_29) : Int32).toNatClampNeg (nI j_102)) j = nI c) := (updP (P := fun z => (z = -1 ∨ ∃ c : Nat, c < 24 ∧ z = nI c)) hf104 (Or.inr ⟨j_102, by omega, rfl⟩))
                  obtain ⟨f_110, ef_110⟩ : ∃ f : Nat → Int32, f = upd f104 ((nI j_29) : Int32).toNatClampNeg (nI j_102) := ⟨_, rfl⟩
                  rw [← ef_110] at hM_107 hf_111
                  clear ef_110
                  refine lv_aload_n hx hb dX13_die_170 rfl (lv_at hl 2 rfl) ?_
                  refine lv_aload hx hb dX13_die_171 (lv_at hl 1 rfl) ?_
                  obtain ⟨fs112, hM112, hn112, hl112⟩ := hW.open_12 hb_22
                  obtain ⟨v113, hv113, hc113⟩ : ∃ v : Nat, fs112[25]? = some (.ref v : Value) ∧ isk K L v 34 24 := hl112 25 (by decide)
                  refine pg_getN (D := D) (ci := 12) (v := .ref v113) (C := RX12) (T := TX12) (N := 51) hx hb hg inG12 hown hK hP hb_22.1 hM112 rfl 25 (by decide) (hN.use (Cond.fieldLinkNest RX13 121 RX12 "heir" "[I" RX13) 34 rfl rfl) (fun _ h9 => h9) hv113 dX13_die_173 ?_
                  refine lv_iload hx hb dX13_die_176 (lv_at hl 0 rfl) ?_
                  obtain ⟨f114, hM114, hf114⟩ := hW.open_34 hc113
                  have hi_115 : vp_in (nI j_29) 24 := (inbN j_29 24 (by omega) (by omega))
                  refine pg_iald hx hb hK hP hc113.1 0 hM114 rfl hi_115 dX13_die_178 ?_
                  have hp_116 := hf114 _ (vp_lt hi_115)
                  rcases hp_116 with ec_119 | ⟨c_117, hc_118, ec_119⟩
                  · rw [ec_119]
                    have hPc := hP.sub (ws' := [(za, .inr (13, [.int 0, .ref z1, .int (nI z2), .int (nI z3), .int z4, .int z5, .ref z6, .ref z7, .ref z8, .ref z9, .int (nI z10), .ref z11, .ref z12, .ref z13, .ref z14, .ref z15, .int (nI z16), .ref z17, .int z18, .ref z19]))]) [0] rfl
                    have hDc := hD.sub (ws' := [(za, .inr (13, [.int 0, .ref z1, .int (nI z2), .int (nI z3), .int z4, .int z5, .ref z6, .ref z7, .ref z8, .ref z9, .int (nI z10), .ref z11, .ref z12, .ref z13, .ref z14, .ref z15, .int (nI z16), .ref z17, .int z18, .ref z19]))]) [0] (by decide) rfl
                    have hKc := hK.sub (tys' := []) [] rfl
                    have hFc := va_free (wc := [(za, .inr (13, [.int 0, .ref z1, .int (nI z2), .int (nI z3), .int z4, .int z5, .ref z6, .ref z7, .ref z8, .ref z9, .int (nI z10), .ref z11, .ref z12, .ref z13, .ref z14, .ref z15, .int (nI z16), .ref z17, .int z18, .ref z19]))]) hD hS hA [0] rfl
                    refine va_calli (va_runV (As := [.int (-1)]) (rest := []) ⟨hx, hb, hml, hown, hg⟩ (m_done l D H_105.size za 0 z1 (nI z2) (nI z3) z4 z5 z6 z7 z8 z9 (nI z10) z11 z12 z13 z14 z15 (nI z16) z17 z18 z19 (-1)) (cwV 1 hg (gV wd_730 wd_731 wd_732 wd_717 wd_733) rfl rfl rfl (by decide +kernel) ⟨(Nat.le_trans (Nat.le_of_ble_eq_true rfl) hRf), (Nat.le_trans (Nat.le_of_ble_eq_true rfl) hRl)⟩) ⟨Pr.blind, va_recv hK hP (ci := 13) (q0 := 0) rfl rfl, fun U hU hW => ⟨rfl, Pr.at hPc hKc hDc hN hU hW⟩⟩ rfl rfl hl.1 rfl (lv_room (Nat.le_of_ble_eq_true rfl)) dX13_die_179 ⟨(Nat.le_trans (Nat.le_of_ble_eq_true rfl) hRc), (Nat.le_trans (Nat.le_of_ble_eq_true rfl) hRs)⟩) hS (fun q _ h => hFc q h) hFc (fun r_121 M_122 t H_120 locs ht hvm hw hB hz1 hk1 hS => ?_)
                    have hp_123 := hw
                    obtain ⟨hP1, hK1, hD1⟩ := hB
                    rw [ht] at hP1
                    obtain ⟨hP, hD⟩ := va_joinQ (X := [(za, .inr (13, [.int 0, .ref z1, .int (nI z2), .int (nI z3), .int z4, .int z5, .ref z6, .ref z7, .ref z8, .ref z9, .int (nI z10), .ref z11, .ref z12, .ref z13, .ref z14, .ref z15, .int (nI z16), .ref z17, .int z18, .ref z19]))]) (cx := [(za, .inr (13, [.int 0, .ref z1, .int (nI z2), .int (nI z3), .int z4, .int z5, .ref z6, .ref z7, .ref z8, .ref z9, .int (nI z10), .ref z11, .ref z12, .ref z13, .ref z14, .ref z15, .int (nI z16), .ref z17, .int z18, .ref z19]))]) (wr := []) (w1 := [(za, .inr (13, [.int 0, .ref z1, .int (nI z2), .int (nI z3), .int 0, .int (-1), .ref z6, .ref z7, .ref z8, .ref z9, .int (nI z10), .ref z11, .ref z12, .ref z13, .ref z14, .ref z15, .int (nI z16), .ref z17, .int z18, .ref z19]))]) (pl := va_pl L M_106) hP hD [0] [] rfl rfl (by decide) (by decide) hk1 hFc hP1 hD1
                    have hP : va_P D vwCl ([(za, .inr (13, [.int 0, .ref z1, .int (nI z2), .int (nI z3), .int 0, .int (-1), .ref z6, .ref z7, .ref z8, .ref z9, .int (nI z10), .ref z11, .ref z12, .ref z13, .ref z14, .ref z15, .int (nI z16), .ref z17, .int z18, .ref z19]))] ++ va_pl L M_106) H_120 := hP
                    have hD : va_D A ([(za, .inr (13, [.int 0, .ref z1, .int (nI z2), .int (nI z3), .int 0, .int (-1), .ref z6, .ref z7, .ref z8, .ref z9, .int (nI z10), .ref z11, .ref z12, .ref z13, .ref z14, .ref z15, .int (nI z16), .ref z17, .int z18, .ref z19]))] ++ va_pl L M_106) := hD
                    have hq := Eq.symm hp_123
                    subst hq
                    rw [hQ]
                    exact W.iret (v := (-1)) hx hb hr (fun t ht hW9 => ⟨⟨(-1), M_106, rfl, ⟨hW, hF, hG, trivial⟩, ⟨0, (-1), by rw [ht]; exact hP, hD⟩⟩, hS.F ht⟩) hS.2.2 dX13_die_182
                  · rw [ec_119]
                    have hPc := hP.sub (ws' := [(za, .inr (13, [.int 0, .ref z1, .int (nI z2), .int (nI z3), .int z4, .int z5, .ref z6, .ref z7, .ref z8, .ref z9, .int (nI z10), .ref z11, .ref z12, .ref z13, .ref z14, .ref z15, .int (nI z16), .ref z17, .int z18, .ref z19]))]) [0] rfl
                    have hDc := hD.sub (ws' := [(za, .inr (13, [.int 0, .ref z1, .int (nI z2), .int (nI z3), .int z4, .int z5, .ref z6, .ref z7, .ref z8, .ref z9, .int (nI z10), .ref z11, .ref z12, .ref z13, .ref z14, .ref z15, .int (nI z16), .ref z17, .int z18, .ref z19]))]) [0] (by decide) rfl
                    have hKc := hK.sub (tys' := []) [] rfl
                    have hFc := va_free (wc := [(za, .inr (13, [.int 0, .ref z1, .int (nI z2), .int (nI z3), .int z4, .int z5, .ref z6, .ref z7, .ref z8, .ref z9, .int (nI z10), .ref z11, .ref z12, .ref z13, .ref z14, .ref z15, .int (nI z16), .ref z17, .int z18, .ref z19]))]) hD hS hA [0] rfl
                    refine va_calli (va_runV (As := [.int (nI c_117)]) (rest := []) ⟨hx, hb, hml, hown, hg⟩ (m_done l D H_105.size za 0 z1 (nI z2) (nI z3) z4 z5 z6 z7 z8 z9 (nI z10) z11 z12 z13 z14 z15 (nI z16) z17 z18 z19 (nI c_117)) (cwV 1 hg (gV wd_730 wd_731 wd_732 wd_717 wd_733) rfl rfl rfl (by decide +kernel) ⟨(Nat.le_trans (Nat.le_of_ble_eq_true rfl) hRf), (Nat.le_trans (Nat.le_of_ble_eq_true rfl) hRl)⟩) ⟨Pr.blind, va_recv hK hP (ci := 13) (q0 := 0) rfl rfl, fun U hU hW => ⟨rfl, Pr.at hPc hKc hDc hN hU hW⟩⟩ rfl rfl hl.1 rfl (lv_room (Nat.le_of_ble_eq_true rfl)) dX13_die_179 ⟨(Nat.le_trans (Nat.le_of_ble_eq_true rfl) hRc), (Nat.le_trans (Nat.le_of_ble_eq_true rfl) hRs)⟩) hS (fun q _ h => hFc q h) hFc (fun r_125 M_126 t H_124 locs ht hvm hw hB hz1 hk1 hS => ?_)
                    have hp_127 := hw
                    obtain ⟨hP1, hK1, hD1⟩ := hB
                    rw [ht] at hP1
                    obtain ⟨hP, hD⟩ := va_joinQ (X := [(za, .inr (13, [.int 0, .ref z1, .int (nI z2), .int (nI z3), .int z4, .int z5, .ref z6, .ref z7, .ref z8, .ref z9, .int (nI z10), .ref z11, .ref z12, .ref z13, .ref z14, .ref z15, .int (nI z16), .ref z17, .int z18, .ref z19]))]) (cx := [(za, .inr (13, [.int 0, .ref z1, .int (nI z2), .int (nI z3), .int z4, .int z5, .ref z6, .ref z7, .ref z8, .ref z9, .int (nI z10), .ref z11, .ref z12, .ref z13, .ref z14, .ref z15, .int (nI z16), .ref z17, .int z18, .ref z19]))]) (wr := []) (w1 := [(za, .inr (13, [.int 0, .ref z1, .int (nI z2), .int (nI z3), .int 0, .int (-1), .ref z6, .ref z7, .ref z8, .ref z9, .int (nI z10), .ref z11, .ref z12, .ref z13, .ref z14, .ref z15, .int (nI z16), .ref z17, .int z18, .ref z19]))]) (pl := va_pl L M_106) hP hD [0] [] rfl rfl (by decide) (by decide) hk1 hFc hP1 hD1
                    have hP : va_P D vwCl ([(za, .inr (13, [.int 0, .ref z1, .int (nI z2), .int (nI z3), .int 0, .int (-1), .ref z6, .ref z7, .ref z8, .ref z9, .int (nI z10), .ref z11, .ref z12, .ref z13, .ref z14, .ref z15, .int (nI z16), .ref z17, .int z18, .ref z19]))] ++ va_pl L M_106) H_124 := hP
                    have hD : va_D A ([(za, .inr (13, [.int 0, .ref z1, .int (nI z2), .int (nI z3), .int 0, .int (-1), .ref z6, .ref z7, .ref z8, .ref z9, .int (nI z10), .ref z11, .ref z12, .ref z13, .ref z14, .ref z15, .int (nI z16), .ref z17, .int z18, .ref z19]))] ++ va_pl L M_106) := hD
                    have hq := Eq.symm hp_127
                    subst hq
                    rw [hQ]
                    exact W.iret (v := (nI c_117)) hx hb hr (fun t ht hW9 => ⟨⟨(nI c_117), M_106, rfl, ⟨hW, hF, hG, trivial⟩, ⟨0, (-1), by rw [ht]; exact hP, hD⟩⟩, hS.F ht⟩) hS.2.2 dX13_die_182
                · have hz := rfl (a := 0)
                  have n_128 : v57 = 24 := (iEQ (a := v57) (b := 24) (by omega) (by omega)).mp c_58
                  refine lv_aload_n hx hb dX13_die_117 rfl (lv_at hl 2 rfl) ?_
                  refine lv_bipush (v := 9) hx hb dX13_die_118 (by decide) ?_
                  have hPc := hP.sub (ws' := [(za, .inr (13, [.int 0, .ref z1, .int (nI z2), .int (nI z3), .int z4, .int z5, .ref z6, .ref z7, .ref z8, .ref z9, .int (nI z10), .ref z11, .ref z12, .ref z13, .ref z14, .ref z15, .int (nI z16), .ref z17, .int z18, .ref z19]))]) [0] rfl
                  have hDc := hD.sub (ws' := [(za, .inr (13, [.int 0, .ref z1, .int (nI z2), .int (nI z3), .int z4, .int z5, .ref z6, .ref z7, .ref z8, .ref z9, .int (nI z10), .ref z11, .ref z12, .ref z13, .ref z14, .ref z15, .int (nI z16), .ref z17, .int z18, .ref z19]))]) [0] (by decide) rfl
                  have hKc := hK.sub (tys' := []) [] rfl
                  have hFc := va_free (wc := [(za, .inr (13, [.int 0, .ref z1, .int (nI z2), .int (nI z3), .int z4, .int z5, .ref z6, .ref z7, .ref z8, .ref z9, .int (nI z10), .ref z11, .ref z12, .ref z13, .ref z14, .ref z15, .int (nI z16), .ref z17, .int z18, .ref z19]))]) hD hS hA [0] rfl
                  refine va_calli (va_runV (As := [.int 9]) (rest := []) ⟨hx, hb, hml, hown, hg⟩ (m_refused l D H_46.size za 0 z1 (nI z2) (nI z3) z4 z5 z6 z7 z8 z9 (nI z10) z11 z12 z13 z14 z15 (nI z16) z17 z18 z19 9) (cwV 1 hg (gV wd_725 wd_726 wd_727 wd_717 wd_728) rfl rfl rfl (by decide +kernel) ⟨(Nat.le_trans (Nat.le_of_ble_eq_true rfl) hRf), (Nat.le_trans (Nat.le_of_ble_eq_true rfl) hRl)⟩) ⟨Pr.blind, va_recv hK hP (ci := 13) (q0 := 0) rfl rfl, fun U hU hW => ⟨rfl, Pr.at hPc hKc hDc hN hU hW⟩⟩ rfl rfl hl.1 rfl (lv_room (Nat.le_of_ble_eq_true rfl)) dX13_die_120 ⟨(Nat.le_trans (Nat.le_of_ble_eq_true rfl) hRc), (Nat.le_trans (Nat.le_of_ble_eq_true rfl) hRs)⟩) hS (fun q _ h => hFc q h) hFc (fun r_130 M_131 t H_129 locs ht hvm hw hB hz1 hk1 hS => ?_)
                  have hp_132 := hw
                  obtain ⟨hP1, hK1, hD1⟩ := hB
                  rw [ht] at hP1
                  obtain ⟨hP, hD⟩ := va_joinQ (X := [(za, .inr (13, [.int 0, .ref z1, .int (nI z2), .int (nI z3), .int z4, .int z5, .ref z6, .ref z7, .ref z8, .ref z9, .int (nI z10), .ref z11, .ref z12, .ref z13, .ref z14, .ref z15, .int (nI z16), .ref z17, .int z18, .ref z19]))]) (cx := [(za, .inr (13, [.int 0, .ref z1, .int (nI z2), .int (nI z3), .int z4, .int z5, .ref z6, .ref z7, .ref z8, .ref z9, .int (nI z10), .ref z11, .ref z12, .ref z13, .ref z14, .ref z15, .int (nI z16), .ref z17, .int z18, .ref z19]))]) (wr := []) (w1 := [(za, .inr (13, [.int 0, .ref z1, .int (nI z2), .int (nI z3), .int 9, .int (-1), .ref z6, .ref z7, .ref z8, .ref z9, .int (nI z10), .ref z11, .ref z12, .ref z13, .ref z14, .ref z15, .int (nI z16), .ref z17, .int z18, .ref z19]))]) (pl := va_pl L M) hP hD [0] [] rfl rfl (by decide) (by decide) hk1 hFc hP1 hD1
                  have hP : va_P D vwCl ([(za, .inr (13, [.int 0, .ref z1, .int (nI z2), .int (nI z3), .int 9, .int (-1), .ref z6, .ref z7, .ref z8, .ref z9, .int (nI z10), .ref z11, .ref z12, .ref z13, .ref z14, .ref z15, .int (nI z16), .ref z17, .int z18, .ref z19]))] ++ va_pl L M) H_129 := hP
                  have hD : va_D A ([(za, .inr (13, [.int 0, .ref z1, .int (nI z2), .int (nI z3), .int 9, .int (-1), .ref z6, .ref z7, .ref z8, .ref z9, .int (nI z10), .ref z11, .ref z12, .ref z13, .ref z14, .ref z15, .int (nI z16), .ref z17, .int z18, .ref z19]))] ++ va_pl L M) := hD
                  have hq := Eq.symm hp_132
                  subst hq
                  rw [hQ]
                  exact W.iret (v := (-1)) hx hb hr (fun t ht hW9 => ⟨⟨(-1), M, rfl, ⟨hW, hF, hG, trivial⟩, ⟨9, (-1), by rw [ht]; exact hP, hD⟩⟩, hS.F ht⟩) hS.2.2 dX13_die_123
              · have hz := rfl (a := 0)
                refine lv_aload_n hx hb dX13_die_101 rfl (lv_at hl 2 rfl) ?_
                refine lv_iconst (v := 3) hx hb dX13_die_102 (by decide) ?_
                have hPc := hP.sub (ws' := [(za, .inr (13, [.int 0, .ref z1, .int (nI z2), .int (nI z3), .int z4, .int z5, .ref z6, .ref z7, .ref z8, .ref z9, .int (nI z10), .ref z11, .ref z12, .ref z13, .ref z14, .ref z15, .int (nI z16), .ref z17, .int z18, .ref z19]))]) [0] rfl
                have hDc := hD.sub (ws' := [(za, .inr (13, [.int 0, .ref z1, .int (nI z2), .int (nI z3), .int z4, .int z5, .ref z6, .ref z7, .ref z8, .ref z9, .int (nI z10), .ref z11, .ref z12, .ref z13, .ref z14, .ref z15, .int (nI z16), .ref z17, .int z18, .ref z19]))]) [0] (by decide) rfl
                have hKc := hK.sub (tys' := []) [] rfl
                have hFc := va_free (wc := [(za, .inr (13, [.int 0, .ref z1, .int (nI z2), .int (nI z3), .int z4, .int z5, .ref z6, .ref z7, .ref z8, .ref z9, .int (nI z10), .ref z11, .ref z12, .ref z13, .ref z14, .ref z15, .int (nI z16), .ref z17, .int z18, .ref z19]))]) hD hS hA [0] rfl
                refine va_calli (va_runV (As := [.int 3]) (rest := []) ⟨hx, hb, hml, hown, hg⟩ (m_refused l D H_46.size za 0 z1 (nI z2) (nI z3) z4 z5 z6 z7 z8 z9 (nI z10) z11 z12 z13 z14 z15 (nI z16) z17 z18 z19 3) (cwV 1 hg (gV wd_725 wd_726 wd_727 wd_717 wd_728) rfl rfl rfl (by decide +kernel) ⟨(Nat.le_trans (Nat.le_of_ble_eq_true rfl) hRf), (Nat.le_trans (Nat.le_of_ble_eq_true rfl) hRl)⟩) ⟨Pr.blind, va_recv hK hP (ci := 13) (q0 := 0) rfl rfl, fun U hU hW => ⟨rfl, Pr.at hPc hKc hDc hN hU hW⟩⟩ rfl rfl hl.1 rfl (lv_room (Nat.le_of_ble_eq_true rfl)) dX13_die_103 ⟨(Nat.le_trans (Nat.le_of_ble_eq_true rfl) hRc), (Nat.le_trans (Nat.le_of_ble_eq_true rfl) hRs)⟩) hS (fun q _ h => hFc q h) hFc (fun r_134 M_135 t H_133 locs ht hvm hw hB hz1 hk1 hS => ?_)
                have hp_136 := hw
                obtain ⟨hP1, hK1, hD1⟩ := hB
                rw [ht] at hP1
                obtain ⟨hP, hD⟩ := va_joinQ (X := [(za, .inr (13, [.int 0, .ref z1, .int (nI z2), .int (nI z3), .int z4, .int z5, .ref z6, .ref z7, .ref z8, .ref z9, .int (nI z10), .ref z11, .ref z12, .ref z13, .ref z14, .ref z15, .int (nI z16), .ref z17, .int z18, .ref z19]))]) (cx := [(za, .inr (13, [.int 0, .ref z1, .int (nI z2), .int (nI z3), .int z4, .int z5, .ref z6, .ref z7, .ref z8, .ref z9, .int (nI z10), .ref z11, .ref z12, .ref z13, .ref z14, .ref z15, .int (nI z16), .ref z17, .int z18, .ref z19]))]) (wr := []) (w1 := [(za, .inr (13, [.int 0, .ref z1, .int (nI z2), .int (nI z3), .int 3, .int (-1), .ref z6, .ref z7, .ref z8, .ref z9, .int (nI z10), .ref z11, .ref z12, .ref z13, .ref z14, .ref z15, .int (nI z16), .ref z17, .int z18, .ref z19]))]) (pl := va_pl L M) hP hD [0] [] rfl rfl (by decide) (by decide) hk1 hFc hP1 hD1
                have hP : va_P D vwCl ([(za, .inr (13, [.int 0, .ref z1, .int (nI z2), .int (nI z3), .int 3, .int (-1), .ref z6, .ref z7, .ref z8, .ref z9, .int (nI z10), .ref z11, .ref z12, .ref z13, .ref z14, .ref z15, .int (nI z16), .ref z17, .int z18, .ref z19]))] ++ va_pl L M) H_133 := hP
                have hD : va_D A ([(za, .inr (13, [.int 0, .ref z1, .int (nI z2), .int (nI z3), .int 3, .int (-1), .ref z6, .ref z7, .ref z8, .ref z9, .int (nI z10), .ref z11, .ref z12, .ref z13, .ref z14, .ref z15, .int (nI z16), .ref z17, .int z18, .ref z19]))] ++ va_pl L M) := hD
                have hq := Eq.symm hp_136
                subst hq
                rw [hQ]
                exact W.iret (v := (-1)) hx hb hr (fun t ht hW9 => ⟨⟨(-1), M, rfl, ⟨hW, hF, hG, trivial⟩, ⟨3, (-1), by rw [ht]; exact hP, hD⟩⟩, hS.F ht⟩) hS.2.2 dX13_die_106
            · have hz := rfl (a := 0)
              refine lv_if_eq (tgt := 101) hx hb dX13_die_86 (by decide) (fun _ => ?_) (fun c_137 => absurd c_137 (by decide))
              refine lv_aload_n hx hb dX13_die_101 rfl (lv_at hl 2 rfl) ?_
              refine lv_iconst (v := 3) hx hb dX13_die_102 (by decide) ?_
              have hPc := hP.sub (ws' := [(za, .inr (13, [.int 0, .ref z1, .int (nI z2), .int (nI z3), .int z4, .int z5, .ref z6, .ref z7, .ref z8, .ref z9, .int (nI z10), .ref z11, .ref z12, .ref z13, .ref z14, .ref z15, .int (nI z16), .ref z17, .int z18, .ref z19]))]) [0] rfl
              have hDc := hD.sub (ws' := [(za, .inr (13, [.int 0, .ref z1, .int (nI z2), .int (nI z3), .int z4, .int z5, .ref z6, .ref z7, .ref z8, .ref z9, .int (nI z10), .ref z11, .ref z12, .ref z13, .ref z14, .ref z15, .int (nI z16), .ref z17, .int z18, .ref z19]))]) [0] (by decide) rfl
              have hKc := hK.sub (tys' := []) [] rfl
              have hFc := va_free (wc := [(za, .inr (13, [.int 0, .ref z1, .int (nI z2), .int (nI z3), .int z4, .int z5, .ref z6, .ref z7, .ref z8, .ref z9, .int (nI z10), .ref z11, .ref z12, .ref z13, .ref z14, .ref z15, .int (nI z16), .ref z17, .int z18, .ref z19]))]) hD hS hA [0] rfl
              refine va_calli (va_runV (As := [.int 3]) (rest := []) ⟨hx, hb, hml, hown, hg⟩ (m_refused l D H_46.size za 0 z1 (nI z2) (nI z3) z4 z5 z6 z7 z8 z9 (nI z10) z11 z12 z13 z14 z15 (nI z16) z17 z18 z19 3) (cwV 1 hg (gV wd_725 wd_726 wd_727 wd_717 wd_728) rfl rfl rfl (by decide +kernel) ⟨(Nat.le_trans (Nat.le_of_ble_eq_true rfl) hRf), (Nat.le_trans (Nat.le_of_ble_eq_true rfl) hRl)⟩) ⟨Pr.blind, va_recv hK hP (ci := 13) (q0 := 0) rfl rfl, fun U hU hW => ⟨rfl, Pr.at hPc hKc hDc hN hU hW⟩⟩ rfl rfl hl.1 rfl (lv_room (Nat.le_of_ble_eq_true rfl)) dX13_die_103 ⟨(Nat.le_trans (Nat.le_of_ble_eq_true rfl) hRc), (Nat.le_trans (Nat.le_of_ble_eq_true rfl) hRs)⟩) hS (fun q _ h => hFc q h) hFc (fun r_139 M_140 t H_138 locs ht hvm hw hB hz1 hk1 hS => ?_)
              have hp_141 := hw
              obtain ⟨hP1, hK1, hD1⟩ := hB
              rw [ht] at hP1
              obtain ⟨hP, hD⟩ := va_joinQ (X := [(za, .inr (13, [.int 0, .ref z1, .int (nI z2), .int (nI z3), .int z4, .int z5, .ref z6, .ref z7, .ref z8, .ref z9, .int (nI z10), .ref z11, .ref z12, .ref z13, .ref z14, .ref z15, .int (nI z16), .ref z17, .int z18, .ref z19]))]) (cx := [(za, .inr (13, [.int 0, .ref z1, .int (nI z2), .int (nI z3), .int z4, .int z5, .ref z6, .ref z7, .ref z8, .ref z9, .int (nI z10), .ref z11, .ref z12, .ref z13, .ref z14, .ref z15, .int (nI z16), .ref z17, .int z18, .ref z19]))]) (wr := []) (w1 := [(za, .inr (13, [.int 0, .ref z1, .int (nI z2), .int (nI z3), .int 3, .int (-1), .ref z6, .ref z7, .ref z8, .ref z9, .int (nI z10), .ref z11, .ref z12, .ref z13, .ref z14, .ref z15, .int (nI z16), .ref z17, .int z18, .ref z19]))]) (pl := va_pl L M) hP hD [0] [] rfl rfl (by decide) (by decide) hk1 hFc hP1 hD1
              have hP : va_P D vwCl ([(za, .inr (13, [.int 0, .ref z1, .int (nI z2), .int (nI z3), .int 3, .int (-1), .ref z6, .ref z7, .ref z8, .ref z9, .int (nI z10), .ref z11, .ref z12, .ref z13, .ref z14, .ref z15, .int (nI z16), .ref z17, .int z18, .ref z19]))] ++ va_pl L M) H_138 := hP
              have hD : va_D A ([(za, .inr (13, [.int 0, .ref z1, .int (nI z2), .int (nI z3), .int 3, .int (-1), .ref z6, .ref z7, .ref z8, .ref z9, .int (nI z10), .ref z11, .ref z12, .ref z13, .ref z14, .ref z15, .int (nI z16), .ref z17, .int z18, .ref z19]))] ++ va_pl L M) := hD
              have hq := Eq.symm hp_141
              subst hq
              rw [hQ]
              exact W.iret (v := (-1)) hx hb hr (fun t ht hW9 => ⟨⟨(-1), M, rfl, ⟨hW, hF, hG, trivial⟩, ⟨3, (-1), by rw [ht]; exact hP, hD⟩⟩, hS.F ht⟩) hS.2.2 dX13_die_106
          · have hz := rfl (a := 0)
            have n_142 : ¬ (c_40 = 4) := fun q => c_43 ((iEQ (a := c_40) (b := 4) (by omega) (by omega)).mpr q)
            refine lv_aload_n hx hb dX13_die_74 rfl (lv_at hl 2 rfl) ?_
            refine lv_iconst (v := 2) hx hb dX13_die_75 (by decide) ?_
            have hPc := hP.sub (ws' := [(za, .inr (13, [.int 0, .ref z1, .int (nI z2), .int (nI z3), .int z4, .int z5, .ref z6, .ref z7, .ref z8, .ref z9, .int (nI z10), .ref z11, .ref z12, .ref z13, .ref z14, .ref z15, .int (nI z16), .ref z17, .int z18, .ref z19]))]) [0] rfl
            have hDc := hD.sub (ws' := [(za, .inr (13, [.int 0, .ref z1, .int (nI z2), .int (nI z3), .int z4, .int z5, .ref z6, .ref z7, .ref z8, .ref z9, .int (nI z10), .ref z11, .ref z12, .ref z13, .ref z14, .ref z15, .int (nI z16), .ref z17, .int z18, .ref z19]))]) [0] (by decide) rfl
            have hKc := hK.sub (tys' := []) [] rfl
            have hFc := va_free (wc := [(za, .inr (13, [.int 0, .ref z1, .int (nI z2), .int (nI z3), .int z4, .int z5, .ref z6, .ref z7, .ref z8, .ref z9, .int (nI z10), .ref z11, .ref z12, .ref z13, .ref z14, .ref z15, .int (nI z16), .ref z17, .int z18, .ref z19]))]) hD hS hA [0] rfl
            refine va_calli (va_runV (As := [.int 2]) (rest := []) ⟨hx, hb, hml, hown, hg⟩ (m_refused l D H_25.size za 0 z1 (nI z2) (nI z3) z4 z5 z6 z7 z8 z9 (nI z10) z11 z12 z13 z14 z15 (nI z16) z17 z18 z19 2) (cwV 1 hg (gV wd_725 wd_726 wd_727 wd_717 wd_728) rfl rfl rfl (by decide +kernel) ⟨(Nat.le_trans (Nat.le_of_ble_eq_true rfl) hRf), (Nat.le_trans (Nat.le_of_ble_eq_true rfl) hRl)⟩) ⟨Pr.blind, va_recv hK hP (ci := 13) (q0 := 0) rfl rfl, fun U hU hW => ⟨rfl, Pr.at hPc hKc hDc hN hU hW⟩⟩ rfl rfl hl.1 rfl (lv_room (Nat.le_of_ble_eq_true rfl)) dX13_die_76 ⟨(Nat.le_trans (Nat.le_of_ble_eq_true rfl) hRc), (Nat.le_trans (Nat.le_of_ble_eq_true rfl) hRs)⟩) hS (fun q _ h => hFc q h) hFc (fun r_144 M_145 t H_143 locs ht hvm hw hB hz1 hk1 hS => ?_)
            have hp_146 := hw
            obtain ⟨hP1, hK1, hD1⟩ := hB
            rw [ht] at hP1
            obtain ⟨hP, hD⟩ := va_joinQ (X := [(za, .inr (13, [.int 0, .ref z1, .int (nI z2), .int (nI z3), .int z4, .int z5, .ref z6, .ref z7, .ref z8, .ref z9, .int (nI z10), .ref z11, .ref z12, .ref z13, .ref z14, .ref z15, .int (nI z16), .ref z17, .int z18, .ref z19]))]) (cx := [(za, .inr (13, [.int 0, .ref z1, .int (nI z2), .int (nI z3), .int z4, .int z5, .ref z6, .ref z7, .ref z8, .ref z9, .int (nI z10), .ref z11, .ref z12, .ref z13, .ref z14, .ref z15, .int (nI z16), .ref z17, .int z18, .ref z19]))]) (wr := []) (w1 := [(za, .inr (13, [.int 0, .ref z1, .int (nI z2), .int (nI z3), .int 2, .int (-1), .ref z6, .ref z7, .ref z8, .ref z9, .int (nI z10), .ref z11, .ref z12, .ref z13, .ref z14, .ref z15, .int (nI z16), .ref z17, .int z18, .ref z19]))]) (pl := va_pl L M) hP hD [0] [] rfl rfl (by decide) (by decide) hk1 hFc hP1 hD1
            have hP : va_P D vwCl ([(za, .inr (13, [.int 0, .ref z1, .int (nI z2), .int (nI z3), .int 2, .int (-1), .ref z6, .ref z7, .ref z8, .ref z9, .int (nI z10), .ref z11, .ref z12, .ref z13, .ref z14, .ref z15, .int (nI z16), .ref z17, .int z18, .ref z19]))] ++ va_pl L M) H_143 := hP
            have hD : va_D A ([(za, .inr (13, [.int 0, .ref z1, .int (nI z2), .int (nI z3), .int 2, .int (-1), .ref z6, .ref z7, .ref z8, .ref z9, .int (nI z10), .ref z11, .ref z12, .ref z13, .ref z14, .ref z15, .int (nI z16), .ref z17, .int z18, .ref z19]))] ++ va_pl L M) := hD
            have hq := Eq.symm hp_146
            subst hq
            rw [hQ]
            exact W.iret (v := (-1)) hx hb hr (fun t ht hW9 => ⟨⟨(-1), M, rfl, ⟨hW, hF, hG, trivial⟩, ⟨2, (-1), by rw [ht]; exact hP, hD⟩⟩, hS.F ht⟩) hS.2.2 dX13_die_79
      · have hz := rfl (a := 0)
        refine lv_aload_n hx hb dX13_die_28 rfl (lv_at hl 0 rfl) ?_
        refine lv_iconst (v := 1) hx hb dX13_die_29 (by decide) ?_
        have hPc := hP.sub (ws' := [(za, .inr (13, [.int 0, .ref z1, .int (nI z2), .int (nI z3), .int z4, .int z5, .ref z6, .ref z7, .ref z8, .ref z9, .int (nI z10), .ref z11, .ref z12, .ref z13, .ref z14, .ref z15, .int (nI z16), .ref z17, .int z18, .ref z19]))]) [0] rfl
        have hDc := hD.sub (ws' := [(za, .inr (13, [.int 0, .ref z1, .int (nI z2), .int (nI z3), .int z4, .int z5, .ref z6, .ref z7, .ref z8, .ref z9, .int (nI z10), .ref z11, .ref z12, .ref z13, .ref z14, .ref z15, .int (nI z16), .ref z17, .int z18, .ref z19]))]) [0] (by decide) rfl
        have hKc := hK.sub (tys' := []) [] rfl
        have hFc := va_free (wc := [(za, .inr (13, [.int 0, .ref z1, .int (nI z2), .int (nI z3), .int z4, .int z5, .ref z6, .ref z7, .ref z8, .ref z9, .int (nI z10), .ref z11, .ref z12, .ref z13, .ref z14, .ref z15, .int (nI z16), .ref z17, .int z18, .ref z19]))]) hD hS hA [0] rfl
        refine va_calli (va_runV (As := [.int 1]) (rest := []) ⟨hx, hb, hml, hown, hg⟩ (m_refused l D H_2.size za 0 z1 (nI z2) (nI z3) z4 z5 z6 z7 z8 z9 (nI z10) z11 z12 z13 z14 z15 (nI z16) z17 z18 z19 1) (cwV 1 hg (gV wd_725 wd_726 wd_727 wd_717 wd_728) rfl rfl rfl (by decide +kernel) ⟨(Nat.le_trans (Nat.le_of_ble_eq_true rfl) hRf), (Nat.le_trans (Nat.le_of_ble_eq_true rfl) hRl)⟩) ⟨Pr.blind, va_recv hK hP (ci := 13) (q0 := 0) rfl rfl, fun U hU hW => ⟨rfl, Pr.at hPc hKc hDc hN hU hW⟩⟩ rfl rfl hl.1 rfl (lv_room (Nat.le_of_ble_eq_true rfl)) dX13_die_30 ⟨(Nat.le_trans (Nat.le_of_ble_eq_true rfl) hRc), (Nat.le_trans (Nat.le_of_ble_eq_true rfl) hRs)⟩) hS (fun q _ h => hFc q h) hFc (fun r_148 M_149 t H_147 locs ht hvm hw hB hz1 hk1 hS => ?_)
        have hp_150 := hw
        obtain ⟨hP1, hK1, hD1⟩ := hB
        rw [ht] at hP1
        obtain ⟨hP, hD⟩ := va_joinQ (X := [(za, .inr (13, [.int 0, .ref z1, .int (nI z2), .int (nI z3), .int z4, .int z5, .ref z6, .ref z7, .ref z8, .ref z9, .int (nI z10), .ref z11, .ref z12, .ref z13, .ref z14, .ref z15, .int (nI z16), .ref z17, .int z18, .ref z19]))]) (cx := [(za, .inr (13, [.int 0, .ref z1, .int (nI z2), .int (nI z3), .int z4, .int z5, .ref z6, .ref z7, .ref z8, .ref z9, .int (nI z10), .ref z11, .ref z12, .ref z13, .ref z14, .ref z15, .int (nI z16), .ref z17, .int z18, .ref z19]))]) (wr := []) (w1 := [(za, .inr (13, [.int 0, .ref z1, .int (nI z2), .int (nI z3), .int 1, .int (-1), .ref z6, .ref z7, .ref z8, .ref z9, .int (nI z10), .ref z11, .ref z12, .ref z13, .ref z14, .ref z15, .int (nI z16), .ref z17, .int z18, .ref z19]))]) (pl := va_pl L M) hP hD [0] [] rfl rfl (by decide) (by decide) hk1 hFc hP1 hD1
        have hP : va_P D vwCl ([(za, .inr (13, [.int 0, .ref z1, .int (nI z2), .int (nI z3), .int 1, .int (-1), .ref z6, .ref z7, .ref z8, .ref z9, .int (nI z10), .ref z11, .ref z12, .ref z13, .ref z14, .ref z15, .int (nI z16), .ref z17, .int z18, .ref z19]))] ++ va_pl L M) H_147 := hP
        have hD : va_D A ([(za, .inr (13, [.int 0, .ref z1, .int (nI z2), .int (nI z3), .int 1, .int (-1), .ref z6, .ref z7, .ref z8, .ref z9, .int (nI z10), .ref z11, .ref z12, .ref z13, .ref z14, .ref z15, .int (nI z16), .ref z17, .int z18, .ref z19]))] ++ va_pl L M) := hD
        have hq := Eq.symm hp_150
        subst hq
        rw [hQ]
        exact W.iret (v := (-1)) hx hb hr (fun t ht hW9 => ⟨⟨(-1), M, rfl, ⟨hW, hF, hG, trivial⟩, ⟨1, (-1), by rw [ht]; exact hP, hD⟩⟩, hS.F ht⟩) hS.2.2 dX13_die_33
  · have hz := rfl (a := 0)
    refine lv_if_eq (tgt := 28) hx hb dX13_die_11 (by decide) (fun _ => ?_) (fun c_151 => absurd c_151 (by decide))
    refine lv_aload_n hx hb dX13_die_28 rfl (lv_at hl 0 rfl) ?_
    refine lv_iconst (v := 1) hx hb dX13_die_29 (by decide) ?_
    have hPc := hP.sub (ws' := [(za, .inr (13, [.int 0, .ref z1, .int (nI z2), .int (nI z3), .int z4, .int z5, .ref z6, .ref z7, .ref z8, .ref z9, .int (nI z10), .ref z11, .ref z12, .ref z13, .ref z14, .ref z15, .int (nI z16), .ref z17, .int z18, .ref z19]))]) [0] rfl
    have hDc := hD.sub (ws' := [(za, .inr (13, [.int 0, .ref z1, .int (nI z2), .int (nI z3), .int z4, .int z5, .ref z6, .ref z7, .ref z8, .ref z9, .int (nI z10), .ref z11, .ref z12, .ref z13, .ref z14, .ref z15, .int (nI z16), .ref z17, .int z18, .ref z19]))]) [0] (by decide) rfl
    have hKc := hK.sub (tys' := []) [] rfl
    have hFc := va_free (wc := [(za, .inr (13, [.int 0, .ref z1, .int (nI z2), .int (nI z3), .int z4, .int z5, .ref z6, .ref z7, .ref z8, .ref z9, .int (nI z10), .ref z11, .ref z12, .ref z13, .ref z14, .ref z15, .int (nI z16), .ref z17, .int z18, .ref z19]))]) hD hS hA [0] rfl
    refine va_calli (va_runV (As := [.int 1]) (rest := []) ⟨hx, hb, hml, hown, hg⟩ (m_refused l D H_2.size za 0 z1 (nI z2) (nI z3) z4 z5 z6 z7 z8 z9 (nI z10) z11 z12 z13 z14 z15 (nI z16) z17 z18 z19 1) (cwV 1 hg (gV wd_725 wd_726 wd_727 wd_717 wd_728) rfl rfl rfl (by decide +kernel) ⟨(Nat.le_trans (Nat.le_of_ble_eq_true rfl) hRf), (Nat.le_trans (Nat.le_of_ble_eq_true rfl) hRl)⟩) ⟨Pr.blind, va_recv hK hP (ci := 13) (q0 := 0) rfl rfl, fun U hU hW => ⟨rfl, Pr.at hPc hKc hDc hN hU hW⟩⟩ rfl rfl hl.1 rfl (lv_room (Nat.le_of_ble_eq_true rfl)) dX13_die_30 ⟨(Nat.le_trans (Nat.le_of_ble_eq_true rfl) hRc), (Nat.le_trans (Nat.le_of_ble_eq_true rfl) hRs)⟩) hS (fun q _ h => hFc q h) hFc (fun r_153 M_154 t H_152 locs ht hvm hw hB hz1 hk1 hS => ?_)
    have hp_155 := hw
    obtain ⟨hP1, hK1, hD1⟩ := hB
    rw [ht] at hP1
    obtain ⟨hP, hD⟩ := va_joinQ (X := [(za, .inr (13, [.int 0, .ref z1, .int (nI z2), .int (nI z3), .int z4, .int z5, .ref z6, .ref z7, .ref z8, .ref z9, .int (nI z10), .ref z11, .ref z12, .ref z13, .ref z14, .ref z15, .int (nI z16), .ref z17, .int z18, .ref z19]))]) (cx := [(za, .inr (13, [.int 0, .ref z1, .int (nI z2), .int (nI z3), .int z4, .int z5, .ref z6, .ref z7, .ref z8, .ref z9, .int (nI z10), .ref z11, .ref z12, .ref z13, .ref z14, .ref z15, .int (nI z16), .ref z17, .int z18, .ref z19]))]) (wr := []) (w1 := [(za, .inr (13, [.int 0, .ref z1, .int (nI z2), .int (nI z3), .int 1, .int (-1), .ref z6, .ref z7, .ref z8, .ref z9, .int (nI z10), .ref z11, .ref z12, .ref z13, .ref z14, .ref z15, .int (nI z16), .ref z17, .int z18, .ref z19]))]) (pl := va_pl L M) hP hD [0] [] rfl rfl (by decide) (by decide) hk1 hFc hP1 hD1
    have hP : va_P D vwCl ([(za, .inr (13, [.int 0, .ref z1, .int (nI z2), .int (nI z3), .int 1, .int (-1), .ref z6, .ref z7, .ref z8, .ref z9, .int (nI z10), .ref z11, .ref z12, .ref z13, .ref z14, .ref z15, .int (nI z16), .ref z17, .int z18, .ref z19]))] ++ va_pl L M) H_152 := hP
    have hD : va_D A ([(za, .inr (13, [.int 0, .ref z1, .int (nI z2), .int (nI z3), .int 1, .int (-1), .ref z6, .ref z7, .ref z8, .ref z9, .int (nI z10), .ref z11, .ref z12, .ref z13, .ref z14, .ref z15, .int (nI z16), .ref z17, .int z18, .ref z19]))] ++ va_pl L M) := hD
    have hq := Eq.symm hp_155
    subst hq
    rw [hQ]
    exact W.iret (v := (-1)) hx hb hr (fun t ht hW9 => ⟨⟨(-1), M, rfl, ⟨hW, hF, hG, trivial⟩, ⟨1, (-1), by rw [ht]; exact hP, hD⟩⟩, hS.F ht⟩) hS.2.2 dX13_die_33
