theorem dX12_remember_0 : decode cX12_remember 0 = .ok (.aload_n 0, 1) := by decide +kernel
theorem dX12_remember_1 : decode cX12_remember 1 = .ok (.getfield 135, 3) := by decide +kernel
theorem dX12_remember_4 : decode cX12_remember 4 = .ok (.bipush 60, 2) := by decide +kernel
theorem dX12_remember_6 : decode cX12_remember 6 = .ok (.if_icmp .ne 41, 3) := by decide +kernel
theorem dX12_remember_9 : decode cX12_remember 9 = .ok (.iconst 1, 1) := by decide +kernel
theorem dX12_remember_10 : decode cX12_remember 10 = .ok (.istore_n 2, 1) := by decide +kernel
theorem dX12_remember_11 : decode cX12_remember 11 = .ok (.iload_n 2, 1) := by decide +kernel
theorem dX12_remember_12 : decode cX12_remember 12 = .ok (.bipush 60, 2) := by decide +kernel
theorem dX12_remember_14 : decode cX12_remember 14 = .ok (.if_icmp .ge 23, 3) := by decide +kernel
theorem dX12_remember_17 : decode cX12_remember 17 = .ok (.aload_n 0, 1) := by decide +kernel
theorem dX12_remember_18 : decode cX12_remember 18 = .ok (.getfield 104, 3) := by decide +kernel
theorem dX12_remember_21 : decode cX12_remember 21 = .ok (.iload_n 2, 1) := by decide +kernel
theorem dX12_remember_22 : decode cX12_remember 22 = .ok (.iconst 1, 1) := by decide +kernel
theorem dX12_remember_23 : decode cX12_remember 23 = .ok (.isub, 1) := by decide +kernel
theorem dX12_remember_24 : decode cX12_remember 24 = .ok (.aload_n 0, 1) := by decide +kernel
theorem dX12_remember_25 : decode cX12_remember 25 = .ok (.getfield 104, 3) := by decide +kernel
theorem dX12_remember_28 : decode cX12_remember 28 = .ok (.iload_n 2, 1) := by decide +kernel
theorem dX12_remember_29 : decode cX12_remember 29 = .ok (.iaload, 1) := by decide +kernel
theorem dX12_remember_30 : decode cX12_remember 30 = .ok (.iastore, 1) := by decide +kernel
theorem dX12_remember_31 : decode cX12_remember 31 = .ok (.iinc 2 1, 3) := by decide +kernel
theorem dX12_remember_34 : decode cX12_remember 34 = .ok (.goto (-23), 3) := by decide +kernel
theorem dX12_remember_37 : decode cX12_remember 37 = .ok (.aload_n 0, 1) := by decide +kernel
theorem dX12_remember_38 : decode cX12_remember 38 = .ok (.dup, 1) := by decide +kernel
theorem dX12_remember_39 : decode cX12_remember 39 = .ok (.getfield 135, 3) := by decide +kernel
theorem dX12_remember_42 : decode cX12_remember 42 = .ok (.iconst 1, 1) := by decide +kernel
theorem dX12_remember_43 : decode cX12_remember 43 = .ok (.isub, 1) := by decide +kernel
theorem dX12_remember_44 : decode cX12_remember 44 = .ok (.putfield 135, 3) := by decide +kernel
theorem dX12_remember_47 : decode cX12_remember 47 = .ok (.aload_n 0, 1) := by decide +kernel
theorem dX12_remember_48 : decode cX12_remember 48 = .ok (.getfield 104, 3) := by decide +kernel
theorem dX12_remember_51 : decode cX12_remember 51 = .ok (.aload_n 0, 1) := by decide +kernel
theorem dX12_remember_52 : decode cX12_remember 52 = .ok (.getfield 135, 3) := by decide +kernel
theorem dX12_remember_55 : decode cX12_remember 55 = .ok (.iload_n 1, 1) := by decide +kernel
theorem dX12_remember_56 : decode cX12_remember 56 = .ok (.iastore, 1) := by decide +kernel
theorem dX12_remember_57 : decode cX12_remember 57 = .ok (.aload_n 0, 1) := by decide +kernel
theorem dX12_remember_58 : decode cX12_remember 58 = .ok (.dup, 1) := by decide +kernel
theorem dX12_remember_59 : decode cX12_remember 59 = .ok (.getfield 135, 3) := by decide +kernel
theorem dX12_remember_62 : decode cX12_remember 62 = .ok (.iconst 1, 1) := by decide +kernel
theorem dX12_remember_63 : decode cX12_remember 63 = .ok (.iadd, 1) := by decide +kernel
theorem dX12_remember_64 : decode cX12_remember 64 = .ok (.putfield 135, 3) := by decide +kernel
theorem dX12_remember_67 : decode cX12_remember 67 = .ok (.return_, 1) := by decide +kernel
theorem dX13_begins_0 : decode cX13_begins 0 = .ok (.aload_n 1, 1) := by decide +kernel
theorem dX13_begins_1 : decode cX13_begins 1 = .ok (.getfield 68, 3) := by decide +kernel
theorem dX13_begins_4 : decode cX13_begins 4 = .ok (.istore 6, 2) := by decide +kernel
theorem dX13_begins_6 : decode cX13_begins 6 = .ok (.aload_n 1, 1) := by decide +kernel
theorem dX13_begins_7 : decode cX13_begins 7 = .ok (.dup, 1) := by decide +kernel
theorem dX13_begins_8 : decode cX13_begins 8 = .ok (.getfield 68, 3) := by decide +kernel
theorem dX13_begins_11 : decode cX13_begins 11 = .ok (.iconst 1, 1) := by decide +kernel
theorem dX13_begins_12 : decode cX13_begins 12 = .ok (.iadd, 1) := by decide +kernel
theorem dX13_begins_13 : decode cX13_begins 13 = .ok (.putfield 68, 3) := by decide +kernel
theorem dX13_begins_16 : decode cX13_begins 16 = .ok (.aload_n 1, 1) := by decide +kernel
theorem dX13_begins_17 : decode cX13_begins 17 = .ok (.getfield 72, 3) := by decide +kernel
theorem dX13_begins_20 : decode cX13_begins 20 = .ok (.iload 6, 2) := by decide +kernel
theorem dX13_begins_22 : decode cX13_begins 22 = .ok (.iload_n 3, 1) := by decide +kernel
theorem dX13_begins_23 : decode cX13_begins 23 = .ok (.iastore, 1) := by decide +kernel
theorem dX13_begins_24 : decode cX13_begins 24 = .ok (.aload_n 1, 1) := by decide +kernel
theorem dX13_begins_25 : decode cX13_begins 25 = .ok (.getfield 110, 3) := by decide +kernel
theorem dX13_begins_28 : decode cX13_begins 28 = .ok (.iload 6, 2) := by decide +kernel
theorem dX13_begins_30 : decode cX13_begins 30 = .ok (.iload_n 2, 1) := by decide +kernel
theorem dX13_begins_31 : decode cX13_begins 31 = .ok (.iastore, 1) := by decide +kernel
theorem dX13_begins_32 : decode cX13_begins 32 = .ok (.aload_n 1, 1) := by decide +kernel
theorem dX13_begins_33 : decode cX13_begins 33 = .ok (.getfield 112, 3) := by decide +kernel
theorem dX13_begins_36 : decode cX13_begins 36 = .ok (.iload 6, 2) := by decide +kernel
theorem dX13_begins_38 : decode cX13_begins 38 = .ok (.iload 4, 2) := by decide +kernel
theorem dX13_begins_40 : decode cX13_begins 40 = .ok (.iastore, 1) := by decide +kernel
theorem dX13_begins_41 : decode cX13_begins 41 = .ok (.aload_n 1, 1) := by decide +kernel
theorem dX13_begins_42 : decode cX13_begins 42 = .ok (.getfield 95, 3) := by decide +kernel
theorem dX13_begins_45 : decode cX13_begins 45 = .ok (.iload 6, 2) := by decide +kernel
theorem dX13_begins_47 : decode cX13_begins 47 = .ok (.iconst (-1), 1) := by decide +kernel
theorem dX13_begins_48 : decode cX13_begins 48 = .ok (.iastore, 1) := by decide +kernel
theorem dX13_begins_49 : decode cX13_begins 49 = .ok (.aload_n 1, 1) := by decide +kernel
theorem dX13_begins_50 : decode cX13_begins 50 = .ok (.getfield 115, 3) := by decide +kernel
theorem dX13_begins_53 : decode cX13_begins 53 = .ok (.iload 6, 2) := by decide +kernel
theorem dX13_begins_55 : decode cX13_begins 55 = .ok (.iconst 0, 1) := by decide +kernel
theorem dX13_begins_56 : decode cX13_begins 56 = .ok (.iastore, 1) := by decide +kernel
theorem dX13_begins_57 : decode cX13_begins 57 = .ok (.aload_n 1, 1) := by decide +kernel
theorem dX13_begins_58 : decode cX13_begins 58 = .ok (.getfield 118, 3) := by decide +kernel
theorem dX13_begins_61 : decode cX13_begins 61 = .ok (.iload 6, 2) := by decide +kernel
theorem dX13_begins_63 : decode cX13_begins 63 = .ok (.iconst 0, 1) := by decide +kernel
theorem dX13_begins_64 : decode cX13_begins 64 = .ok (.iastore, 1) := by decide +kernel
theorem dX13_begins_65 : decode cX13_begins 65 = .ok (.aload_n 1, 1) := by decide +kernel
theorem dX13_begins_66 : decode cX13_begins 66 = .ok (.getfield 121, 3) := by decide +kernel
theorem dX13_begins_69 : decode cX13_begins 69 = .ok (.iload 6, 2) := by decide +kernel
theorem dX13_begins_71 : decode cX13_begins 71 = .ok (.iconst (-1), 1) := by decide +kernel
theorem dX13_begins_72 : decode cX13_begins 72 = .ok (.iastore, 1) := by decide +kernel
theorem dX13_begins_73 : decode cX13_begins 73 = .ok (.aload_n 1, 1) := by decide +kernel
theorem dX13_begins_74 : decode cX13_begins 74 = .ok (.getfield 124, 3) := by decide +kernel
theorem dX13_begins_77 : decode cX13_begins 77 = .ok (.iload 6, 2) := by decide +kernel
theorem dX13_begins_79 : decode cX13_begins 79 = .ok (.iload 5, 2) := by decide +kernel
theorem dX13_begins_81 : decode cX13_begins 81 = .ok (.bastore, 1) := by decide +kernel
theorem dX13_begins_82 : decode cX13_begins 82 = .ok (.aload_n 1, 1) := by decide +kernel
theorem dX13_begins_83 : decode cX13_begins 83 = .ok (.getfield 92, 3) := by decide +kernel
theorem dX13_begins_86 : decode cX13_begins 86 = .ok (.iload_n 2, 1) := by decide +kernel
theorem dX13_begins_87 : decode cX13_begins 87 = .ok (.iload 6, 2) := by decide +kernel
theorem dX13_begins_89 : decode cX13_begins 89 = .ok (.iconst 1, 1) := by decide +kernel
theorem dX13_begins_90 : decode cX13_begins 90 = .ok (.iadd, 1) := by decide +kernel
theorem dX13_begins_91 : decode cX13_begins 91 = .ok (.iastore, 1) := by decide +kernel
theorem dX13_begins_92 : decode cX13_begins 92 = .ok (.iload 6, 2) := by decide +kernel
theorem dX13_begins_94 : decode cX13_begins 94 = .ok (.ireturn, 1) := by decide +kernel
theorem dX13_leave_0 : decode cX13_leave 0 = .ok (.aload_n 0, 1) := by decide +kernel
theorem dX13_leave_1 : decode cX13_leave 1 = .ok (.iconst 0, 1) := by decide +kernel
theorem dX13_leave_2 : decode cX13_leave 2 = .ok (.putfield 55, 3) := by decide +kernel
theorem dX13_leave_5 : decode cX13_leave 5 = .ok (.aload_n 0, 1) := by decide +kernel
theorem dX13_leave_6 : decode cX13_leave 6 = .ok (.iload_n 1, 1) := by decide +kernel
theorem dX13_leave_7 : decode cX13_leave 7 = .ok (.iload_n 2, 1) := by decide +kernel
theorem dX13_leave_8 : decode cX13_leave 8 = .ok (.invokevirtual 98, 3) := by decide +kernel
theorem dX13_leave_11 : decode cX13_leave 11 = .ok (.ifCond .ne 9, 3) := by decide +kernel
theorem dX13_leave_14 : decode cX13_leave 14 = .ok (.aload_n 0, 1) := by decide +kernel
theorem dX13_leave_15 : decode cX13_leave 15 = .ok (.iconst 1, 1) := by decide +kernel
theorem dX13_leave_16 : decode cX13_leave 16 = .ok (.invokevirtual 73, 3) := by decide +kernel
theorem dX13_leave_19 : decode cX13_leave 19 = .ok (.ireturn, 1) := by decide +kernel
theorem dX13_leave_20 : decode cX13_leave 20 = .ok (.aload_n 0, 1) := by decide +kernel
theorem dX13_leave_21 : decode cX13_leave 21 = .ok (.getfield 12, 3) := by decide +kernel
theorem dX13_leave_24 : decode cX13_leave 24 = .ok (.iload_n 1, 1) := by decide +kernel
theorem dX13_leave_25 : decode cX13_leave 25 = .ok (.aaload, 1) := by decide +kernel
theorem dX13_leave_26 : decode cX13_leave 26 = .ok (.astore 6, 2) := by decide +kernel
theorem dX13_leave_28 : decode cX13_leave 28 = .ok (.aload_n 0, 1) := by decide +kernel
theorem dX13_leave_29 : decode cX13_leave 29 = .ok (.aload 6, 2) := by decide +kernel
theorem dX13_leave_31 : decode cX13_leave 31 = .ok (.iload_n 2, 1) := by decide +kernel
theorem dX13_leave_32 : decode cX13_leave 32 = .ok (.invokevirtual 103, 3) := by decide +kernel
theorem dX13_leave_35 : decode cX13_leave 35 = .ok (.istore 7, 2) := by decide +kernel
theorem dX13_leave_37 : decode cX13_leave 37 = .ok (.iload 7, 2) := by decide +kernel
theorem dX13_leave_39 : decode cX13_leave 39 = .ok (.iconst (-1), 1) := by decide +kernel
theorem dX13_leave_40 : decode cX13_leave 40 = .ok (.if_icmp .ne 9, 3) := by decide +kernel
theorem dX13_leave_43 : decode cX13_leave 43 = .ok (.aload_n 0, 1) := by decide +kernel
theorem dX13_leave_44 : decode cX13_leave 44 = .ok (.iconst 4, 1) := by decide +kernel
theorem dX13_leave_45 : decode cX13_leave 45 = .ok (.invokevirtual 73, 3) := by decide +kernel
theorem dX13_leave_48 : decode cX13_leave 48 = .ok (.ireturn, 1) := by decide +kernel
theorem dX13_leave_49 : decode cX13_leave 49 = .ok (.iload 4, 2) := by decide +kernel
theorem dX13_leave_51 : decode cX13_leave 51 = .ok (.iconst 1, 1) := by decide +kernel
theorem dX13_leave_52 : decode cX13_leave 52 = .ok (.if_icmp .lt 21, 3) := by decide +kernel
theorem dX13_leave_55 : decode cX13_leave 55 = .ok (.iload 4, 2) := by decide +kernel
theorem dX13_leave_57 : decode cX13_leave 57 = .ok (.bipush 10, 2) := by decide +kernel
theorem dX13_leave_59 : decode cX13_leave 59 = .ok (.if_icmp .gt 14, 3) := by decide +kernel
theorem dX13_leave_62 : decode cX13_leave 62 = .ok (.iload 5, 2) := by decide +kernel
theorem dX13_leave_64 : decode cX13_leave 64 = .ok (.ifCond .lt 9, 3) := by decide +kernel
theorem dX13_leave_67 : decode cX13_leave 67 = .ok (.iload 5, 2) := by decide +kernel
theorem dX13_leave_69 : decode cX13_leave 69 = .ok (.iconst 5, 1) := by decide +kernel
theorem dX13_leave_70 : decode cX13_leave 70 = .ok (.if_icmp .le 9, 3) := by decide +kernel
theorem dX13_leave_73 : decode cX13_leave 73 = .ok (.aload_n 0, 1) := by decide +kernel
theorem dX13_leave_74 : decode cX13_leave 74 = .ok (.iconst 2, 1) := by decide +kernel
theorem dX13_leave_75 : decode cX13_leave 75 = .ok (.invokevirtual 73, 3) := by decide +kernel
theorem dX13_leave_78 : decode cX13_leave 78 = .ok (.ireturn, 1) := by decide +kernel
theorem dX13_leave_79 : decode cX13_leave 79 = .ok (.aload 6, 2) := by decide +kernel
theorem dX13_leave_81 : decode cX13_leave 81 = .ok (.iload_n 3, 1) := by decide +kernel
theorem dX13_leave_82 : decode cX13_leave 82 = .ok (.invokevirtual 131, 3) := by decide +kernel
theorem dX13_leave_85 : decode cX13_leave 85 = .ok (.ifCond .eq 15, 3) := by decide +kernel
theorem dX13_leave_88 : decode cX13_leave 88 = .ok (.iload_n 3, 1) := by decide +kernel
theorem dX13_leave_89 : decode cX13_leave 89 = .ok (.aload 6, 2) := by decide +kernel
theorem dX13_leave_91 : decode cX13_leave 91 = .ok (.getfield 112, 3) := by decide +kernel
theorem dX13_leave_94 : decode cX13_leave 94 = .ok (.iload 7, 2) := by decide +kernel
theorem dX13_leave_96 : decode cX13_leave 96 = .ok (.iaload, 1) := by decide +kernel
theorem dX13_leave_97 : decode cX13_leave 97 = .ok (.if_icmp .gt 9, 3) := by decide +kernel
theorem dX13_leave_100 : decode cX13_leave 100 = .ok (.aload_n 0, 1) := by decide +kernel
theorem dX13_leave_101 : decode cX13_leave 101 = .ok (.iconst 3, 1) := by decide +kernel
theorem dX13_leave_102 : decode cX13_leave 102 = .ok (.invokevirtual 73, 3) := by decide +kernel
theorem dX13_leave_105 : decode cX13_leave 105 = .ok (.ireturn, 1) := by decide +kernel
theorem dX13_leave_106 : decode cX13_leave 106 = .ok (.aload 6, 2) := by decide +kernel
theorem dX13_leave_108 : decode cX13_leave 108 = .ok (.getfield 95, 3) := by decide +kernel
theorem dX13_leave_111 : decode cX13_leave 111 = .ok (.iload 7, 2) := by decide +kernel
theorem dX13_leave_113 : decode cX13_leave 113 = .ok (.iload_n 3, 1) := by decide +kernel
theorem dX13_leave_114 : decode cX13_leave 114 = .ok (.iastore, 1) := by decide +kernel
theorem dX13_leave_115 : decode cX13_leave 115 = .ok (.aload 6, 2) := by decide +kernel
theorem dX13_leave_117 : decode cX13_leave 117 = .ok (.getfield 115, 3) := by decide +kernel
theorem dX13_leave_120 : decode cX13_leave 120 = .ok (.iload 7, 2) := by decide +kernel
theorem dX13_leave_122 : decode cX13_leave 122 = .ok (.iload 4, 2) := by decide +kernel
theorem dX13_leave_124 : decode cX13_leave 124 = .ok (.iastore, 1) := by decide +kernel
theorem dX13_leave_125 : decode cX13_leave 125 = .ok (.aload 6, 2) := by decide +kernel
theorem dX13_leave_127 : decode cX13_leave 127 = .ok (.getfield 118, 3) := by decide +kernel
theorem dX13_leave_130 : decode cX13_leave 130 = .ok (.iload 7, 2) := by decide +kernel
theorem dX13_leave_132 : decode cX13_leave 132 = .ok (.iload 5, 2) := by decide +kernel
theorem dX13_leave_134 : decode cX13_leave 134 = .ok (.iastore, 1) := by decide +kernel
theorem dX13_leave_135 : decode cX13_leave 135 = .ok (.aload_n 0, 1) := by decide +kernel
theorem dX13_leave_136 : decode cX13_leave 136 = .ok (.iload 7, 2) := by decide +kernel
theorem dX13_leave_138 : decode cX13_leave 138 = .ok (.invokevirtual 86, 3) := by decide +kernel
theorem dX13_leave_141 : decode cX13_leave 141 = .ok (.ireturn, 1) := by decide +kernel
theorem dX13_die_0 : decode cX13_die 0 = .ok (.aload_n 0, 1) := by decide +kernel
theorem dX13_die_1 : decode cX13_die 1 = .ok (.iconst 0, 1) := by decide +kernel
theorem dX13_die_2 : decode cX13_die 2 = .ok (.putfield 55, 3) := by decide +kernel
theorem dX13_die_5 : decode cX13_die 5 = .ok (.aload_n 0, 1) := by decide +kernel
theorem dX13_die_6 : decode cX13_die 6 = .ok (.iload_n 1, 1) := by decide +kernel
theorem dX13_die_7 : decode cX13_die 7 = .ok (.iload_n 2, 1) := by decide +kernel
theorem dX13_die_8 : decode cX13_die 8 = .ok (.invokevirtual 98, 3) := by decide +kernel
theorem dX13_die_11 : decode cX13_die 11 = .ok (.ifCond .eq 17, 3) := by decide +kernel
theorem dX13_die_14 : decode cX13_die 14 = .ok (.iload 4, 2) := by decide +kernel
theorem dX13_die_16 : decode cX13_die 16 = .ok (.ifCond .lt 12, 3) := by decide +kernel
theorem dX13_die_19 : decode cX13_die 19 = .ok (.iload 4, 2) := by decide +kernel
theorem dX13_die_21 : decode cX13_die 21 = .ok (.aload_n 0, 1) := by decide +kernel
theorem dX13_die_22 : decode cX13_die 22 = .ok (.getfield 89, 3) := by decide +kernel
theorem dX13_die_25 : decode cX13_die 25 = .ok (.if_icmp .lt 9, 3) := by decide +kernel
theorem dX13_die_28 : decode cX13_die 28 = .ok (.aload_n 0, 1) := by decide +kernel
theorem dX13_die_29 : decode cX13_die 29 = .ok (.iconst 1, 1) := by decide +kernel
theorem dX13_die_30 : decode cX13_die 30 = .ok (.invokevirtual 73, 3) := by decide +kernel
theorem dX13_die_33 : decode cX13_die 33 = .ok (.ireturn, 1) := by decide +kernel
theorem dX13_die_34 : decode cX13_die 34 = .ok (.aload_n 0, 1) := by decide +kernel
theorem dX13_die_35 : decode cX13_die 35 = .ok (.getfield 12, 3) := by decide +kernel
theorem dX13_die_38 : decode cX13_die 38 = .ok (.iload_n 1, 1) := by decide +kernel
theorem dX13_die_39 : decode cX13_die 39 = .ok (.aaload, 1) := by decide +kernel
theorem dX13_die_40 : decode cX13_die 40 = .ok (.astore 5, 2) := by decide +kernel
theorem dX13_die_42 : decode cX13_die 42 = .ok (.aload_n 0, 1) := by decide +kernel
theorem dX13_die_43 : decode cX13_die 43 = .ok (.aload 5, 2) := by decide +kernel
theorem dX13_die_45 : decode cX13_die 45 = .ok (.iload_n 2, 1) := by decide +kernel
theorem dX13_die_46 : decode cX13_die 46 = .ok (.invokevirtual 103, 3) := by decide +kernel
theorem dX13_die_49 : decode cX13_die 49 = .ok (.istore 6, 2) := by decide +kernel
theorem dX13_die_51 : decode cX13_die 51 = .ok (.iload 6, 2) := by decide +kernel
theorem dX13_die_53 : decode cX13_die 53 = .ok (.iconst (-1), 1) := by decide +kernel
theorem dX13_die_54 : decode cX13_die 54 = .ok (.if_icmp .ne 9, 3) := by decide +kernel
theorem dX13_die_57 : decode cX13_die 57 = .ok (.aload_n 0, 1) := by decide +kernel
theorem dX13_die_58 : decode cX13_die 58 = .ok (.iconst 4, 1) := by decide +kernel
theorem dX13_die_59 : decode cX13_die 59 = .ok (.invokevirtual 73, 3) := by decide +kernel
theorem dX13_die_62 : decode cX13_die 62 = .ok (.ireturn, 1) := by decide +kernel
theorem dX13_die_63 : decode cX13_die 63 = .ok (.aload_n 0, 1) := by decide +kernel
theorem dX13_die_64 : decode cX13_die 64 = .ok (.getfield 20, 3) := by decide +kernel
theorem dX13_die_67 : decode cX13_die 67 = .ok (.iload 4, 2) := by decide +kernel
theorem dX13_die_69 : decode cX13_die 69 = .ok (.iaload, 1) := by decide +kernel
theorem dX13_die_70 : decode cX13_die 70 = .ok (.iconst 4, 1) := by decide +kernel
theorem dX13_die_71 : decode cX13_die 71 = .ok (.if_icmp .eq 9, 3) := by decide +kernel
theorem dX13_die_74 : decode cX13_die 74 = .ok (.aload_n 0, 1) := by decide +kernel
theorem dX13_die_75 : decode cX13_die 75 = .ok (.iconst 2, 1) := by decide +kernel
theorem dX13_die_76 : decode cX13_die 76 = .ok (.invokevirtual 73, 3) := by decide +kernel
theorem dX13_die_79 : decode cX13_die 79 = .ok (.ireturn, 1) := by decide +kernel
theorem dX13_die_80 : decode cX13_die 80 = .ok (.aload 5, 2) := by decide +kernel
theorem dX13_die_82 : decode cX13_die 82 = .ok (.iload_n 3, 1) := by decide +kernel
theorem dX13_die_83 : decode cX13_die 83 = .ok (.invokevirtual 131, 3) := by decide +kernel
theorem dX13_die_86 : decode cX13_die 86 = .ok (.ifCond .eq 15, 3) := by decide +kernel
theorem dX13_die_89 : decode cX13_die 89 = .ok (.iload_n 3, 1) := by decide +kernel
theorem dX13_die_90 : decode cX13_die 90 = .ok (.aload 5, 2) := by decide +kernel
theorem dX13_die_92 : decode cX13_die 92 = .ok (.getfield 112, 3) := by decide +kernel
theorem dX13_die_95 : decode cX13_die 95 = .ok (.iload 6, 2) := by decide +kernel
theorem dX13_die_97 : decode cX13_die 97 = .ok (.iaload, 1) := by decide +kernel
theorem dX13_die_98 : decode cX13_die 98 = .ok (.if_icmp .gt 9, 3) := by decide +kernel
theorem dX13_die_101 : decode cX13_die 101 = .ok (.aload_n 0, 1) := by decide +kernel
theorem dX13_die_102 : decode cX13_die 102 = .ok (.iconst 3, 1) := by decide +kernel
theorem dX13_die_103 : decode cX13_die 103 = .ok (.invokevirtual 73, 3) := by decide +kernel
theorem dX13_die_106 : decode cX13_die 106 = .ok (.ireturn, 1) := by decide +kernel
theorem dX13_die_107 : decode cX13_die 107 = .ok (.aload 5, 2) := by decide +kernel
theorem dX13_die_109 : decode cX13_die 109 = .ok (.getfield 68, 3) := by decide +kernel
theorem dX13_die_112 : decode cX13_die 112 = .ok (.bipush 24, 2) := by decide +kernel
theorem dX13_die_114 : decode cX13_die 114 = .ok (.if_icmp .ne 10, 3) := by decide +kernel
theorem dX13_die_117 : decode cX13_die 117 = .ok (.aload_n 0, 1) := by decide +kernel
theorem dX13_die_118 : decode cX13_die 118 = .ok (.bipush 9, 2) := by decide +kernel
theorem dX13_die_120 : decode cX13_die 120 = .ok (.invokevirtual 73, 3) := by decide +kernel
theorem dX13_die_123 : decode cX13_die 123 = .ok (.ireturn, 1) := by decide +kernel
theorem dX13_die_124 : decode cX13_die 124 = .ok (.aload 5, 2) := by decide +kernel
theorem dX13_die_126 : decode cX13_die 126 = .ok (.getfield 95, 3) := by decide +kernel
theorem dX13_die_129 : decode cX13_die 129 = .ok (.iload 6, 2) := by decide +kernel
theorem dX13_die_131 : decode cX13_die 131 = .ok (.iload_n 3, 1) := by decide +kernel
theorem dX13_die_132 : decode cX13_die 132 = .ok (.iastore, 1) := by decide +kernel
theorem dX13_die_133 : decode cX13_die 133 = .ok (.aload 5, 2) := by decide +kernel
theorem dX13_die_135 : decode cX13_die 135 = .ok (.getfield 115, 3) := by decide +kernel
theorem dX13_die_138 : decode cX13_die 138 = .ok (.iload 6, 2) := by decide +kernel
theorem dX13_die_140 : decode cX13_die 140 = .ok (.iconst 1, 1) := by decide +kernel
theorem dX13_die_141 : decode cX13_die 141 = .ok (.iastore, 1) := by decide +kernel
theorem dX13_die_142 : decode cX13_die 142 = .ok (.aload 5, 2) := by decide +kernel
theorem dX13_die_144 : decode cX13_die 144 = .ok (.getfield 118, 3) := by decide +kernel
theorem dX13_die_147 : decode cX13_die 147 = .ok (.iload 6, 2) := by decide +kernel
theorem dX13_die_149 : decode cX13_die 149 = .ok (.iconst 0, 1) := by decide +kernel
theorem dX13_die_150 : decode cX13_die 150 = .ok (.iastore, 1) := by decide +kernel
theorem dX13_die_151 : decode cX13_die 151 = .ok (.aload 5, 2) := by decide +kernel
theorem dX13_die_153 : decode cX13_die 153 = .ok (.getfield 121, 3) := by decide +kernel
theorem dX13_die_156 : decode cX13_die 156 = .ok (.iload 6, 2) := by decide +kernel
theorem dX13_die_158 : decode cX13_die 158 = .ok (.aload_n 0, 1) := by decide +kernel
theorem dX13_die_159 : decode cX13_die 159 = .ok (.aload 5, 2) := by decide +kernel
theorem dX13_die_161 : decode cX13_die 161 = .ok (.iload_n 2, 1) := by decide +kernel
theorem dX13_die_162 : decode cX13_die 162 = .ok (.iload 4, 2) := by decide +kernel
theorem dX13_die_164 : decode cX13_die 164 = .ok (.iload_n 3, 1) := by decide +kernel
theorem dX13_die_165 : decode cX13_die 165 = .ok (.iconst 0, 1) := by decide +kernel
theorem dX13_die_166 : decode cX13_die 166 = .ok (.invokevirtual 138, 3) := by decide +kernel
theorem dX13_die_169 : decode cX13_die 169 = .ok (.iastore, 1) := by decide +kernel
theorem dX13_die_170 : decode cX13_die 170 = .ok (.aload_n 0, 1) := by decide +kernel
theorem dX13_die_171 : decode cX13_die 171 = .ok (.aload 5, 2) := by decide +kernel
theorem dX13_die_173 : decode cX13_die 173 = .ok (.getfield 121, 3) := by decide +kernel
theorem dX13_die_176 : decode cX13_die 176 = .ok (.iload 6, 2) := by decide +kernel
theorem dX13_die_178 : decode cX13_die 178 = .ok (.iaload, 1) := by decide +kernel
theorem dX13_die_179 : decode cX13_die 179 = .ok (.invokevirtual 86, 3) := by decide +kernel
theorem dX13_die_182 : decode cX13_die 182 = .ok (.ireturn, 1) := by decide +kernel
theorem dX13_move_0 : decode cX13_move 0 = .ok (.aload_n 0, 1) := by decide +kernel
theorem dX13_move_1 : decode cX13_move 1 = .ok (.iconst 0, 1) := by decide +kernel
theorem dX13_move_2 : decode cX13_move 2 = .ok (.putfield 55, 3) := by decide +kernel
theorem dX13_move_5 : decode cX13_move 5 = .ok (.aload_n 0, 1) := by decide +kernel
theorem dX13_move_6 : decode cX13_move 6 = .ok (.iload_n 1, 1) := by decide +kernel
theorem dX13_move_7 : decode cX13_move 7 = .ok (.iload_n 2, 1) := by decide +kernel
theorem dX13_move_8 : decode cX13_move 8 = .ok (.invokevirtual 187, 3) := by decide +kernel
theorem dX13_move_11 : decode cX13_move 11 = .ok (.ifCond .ne 9, 3) := by decide +kernel
theorem dX13_move_14 : decode cX13_move 14 = .ok (.aload_n 0, 1) := by decide +kernel
theorem dX13_move_15 : decode cX13_move 15 = .ok (.iconst 1, 1) := by decide +kernel
theorem dX13_move_16 : decode cX13_move 16 = .ok (.invokevirtual 73, 3) := by decide +kernel
theorem dX13_move_19 : decode cX13_move 19 = .ok (.ireturn, 1) := by decide +kernel
theorem dX13_move_20 : decode cX13_move 20 = .ok (.iload 4, 2) := by decide +kernel
theorem dX13_move_22 : decode cX13_move 22 = .ok (.invokestatic 164, 3) := by decide +kernel
theorem dX13_move_25 : decode cX13_move 25 = .ok (.ifCond .ne 9, 3) := by decide +kernel
theorem dX13_move_28 : decode cX13_move 28 = .ok (.aload_n 0, 1) := by decide +kernel
theorem dX13_move_29 : decode cX13_move 29 = .ok (.iconst 2, 1) := by decide +kernel
theorem dX13_move_30 : decode cX13_move 30 = .ok (.invokevirtual 73, 3) := by decide +kernel
theorem dX13_move_33 : decode cX13_move 33 = .ok (.ireturn, 1) := by decide +kernel
theorem dX13_move_34 : decode cX13_move 34 = .ok (.aload_n 0, 1) := by decide +kernel
theorem dX13_move_35 : decode cX13_move 35 = .ok (.getfield 12, 3) := by decide +kernel
theorem dX13_move_38 : decode cX13_move 38 = .ok (.iload_n 1, 1) := by decide +kernel
theorem dX13_move_39 : decode cX13_move 39 = .ok (.aaload, 1) := by decide +kernel
theorem dX13_move_40 : decode cX13_move 40 = .ok (.astore 6, 2) := by decide +kernel
theorem dX13_move_42 : decode cX13_move 42 = .ok (.aload 6, 2) := by decide +kernel
theorem dX13_move_44 : decode cX13_move 44 = .ok (.iload_n 3, 1) := by decide +kernel
theorem dX13_move_45 : decode cX13_move 45 = .ok (.invokevirtual 131, 3) := by decide +kernel
theorem dX13_move_48 : decode cX13_move 48 = .ok (.ifCond .eq 13, 3) := by decide +kernel
theorem dX13_move_51 : decode cX13_move 51 = .ok (.aload 6, 2) := by decide +kernel
theorem dX13_move_53 : decode cX13_move 53 = .ok (.iload_n 2, 1) := by decide +kernel
theorem dX13_move_54 : decode cX13_move 54 = .ok (.iload_n 3, 1) := by decide +kernel
theorem dX13_move_55 : decode cX13_move 55 = .ok (.invokevirtual 190, 3) := by decide +kernel
theorem dX13_move_58 : decode cX13_move 58 = .ok (.ifCond .ne 9, 3) := by decide +kernel
theorem dX13_move_61 : decode cX13_move 61 = .ok (.aload_n 0, 1) := by decide +kernel
theorem dX13_move_62 : decode cX13_move 62 = .ok (.iconst 3, 1) := by decide +kernel
theorem dX13_move_63 : decode cX13_move 63 = .ok (.invokevirtual 73, 3) := by decide +kernel
theorem dX13_move_66 : decode cX13_move 66 = .ok (.ireturn, 1) := by decide +kernel
theorem dX13_move_67 : decode cX13_move 67 = .ok (.aload 6, 2) := by decide +kernel
theorem dX13_move_69 : decode cX13_move 69 = .ok (.getfield 193, 3) := by decide +kernel
theorem dX13_move_72 : decode cX13_move 72 = .ok (.bipush 120, 2) := by decide +kernel
theorem dX13_move_74 : decode cX13_move 74 = .ok (.if_icmp .ne 10, 3) := by decide +kernel
theorem dX13_move_77 : decode cX13_move 77 = .ok (.aload_n 0, 1) := by decide +kernel
theorem dX13_move_78 : decode cX13_move 78 = .ok (.bipush 9, 2) := by decide +kernel
theorem dX13_move_80 : decode cX13_move 80 = .ok (.invokevirtual 73, 3) := by decide +kernel
theorem dX13_move_83 : decode cX13_move 83 = .ok (.ireturn, 1) := by decide +kernel
theorem dX13_move_84 : decode cX13_move 84 = .ok (.aload 6, 2) := by decide +kernel
theorem dX13_move_86 : decode cX13_move 86 = .ok (.getfield 196, 3) := by decide +kernel
theorem dX13_move_89 : decode cX13_move 89 = .ok (.aload 6, 2) := by decide +kernel
theorem dX13_move_91 : decode cX13_move 91 = .ok (.getfield 193, 3) := by decide +kernel
theorem dX13_move_94 : decode cX13_move 94 = .ok (.iload_n 2, 1) := by decide +kernel
theorem dX13_move_95 : decode cX13_move 95 = .ok (.iastore, 1) := by decide +kernel
theorem dX13_move_96 : decode cX13_move 96 = .ok (.aload 6, 2) := by decide +kernel
theorem dX13_move_98 : decode cX13_move 98 = .ok (.getfield 199, 3) := by decide +kernel
theorem dX13_move_101 : decode cX13_move 101 = .ok (.aload 6, 2) := by decide +kernel
theorem dX13_move_103 : decode cX13_move 103 = .ok (.getfield 193, 3) := by decide +kernel
theorem dX13_move_106 : decode cX13_move 106 = .ok (.iload_n 3, 1) := by decide +kernel
theorem dX13_move_107 : decode cX13_move 107 = .ok (.iastore, 1) := by decide +kernel
theorem dX13_move_108 : decode cX13_move 108 = .ok (.aload 6, 2) := by decide +kernel
theorem dX13_move_110 : decode cX13_move 110 = .ok (.getfield 202, 3) := by decide +kernel
theorem dX13_move_113 : decode cX13_move 113 = .ok (.aload 6, 2) := by decide +kernel
theorem dX13_move_115 : decode cX13_move 115 = .ok (.getfield 193, 3) := by decide +kernel
theorem dX13_move_118 : decode cX13_move 118 = .ok (.iload 5, 2) := by decide +kernel
theorem dX13_move_120 : decode cX13_move 120 = .ok (.ifCond .eq 9, 3) := by decide +kernel
theorem dX13_move_123 : decode cX13_move 123 = .ok (.iload 4, 2) := by decide +kernel
theorem dX13_move_125 : decode cX13_move 125 = .ok (.ineg, 1) := by decide +kernel
theorem dX13_move_126 : decode cX13_move 126 = .ok (.goto 5, 3) := by decide +kernel
theorem dX13_move_129 : decode cX13_move 129 = .ok (.iload 4, 2) := by decide +kernel
theorem dX13_move_131 : decode cX13_move 131 = .ok (.iastore, 1) := by decide +kernel
theorem dX13_move_132 : decode cX13_move 132 = .ok (.aload 6, 2) := by decide +kernel
theorem dX13_move_134 : decode cX13_move 134 = .ok (.dup, 1) := by decide +kernel
theorem dX13_move_135 : decode cX13_move 135 = .ok (.getfield 193, 3) := by decide +kernel
theorem dX13_move_138 : decode cX13_move 138 = .ok (.iconst 1, 1) := by decide +kernel
theorem dX13_move_139 : decode cX13_move 139 = .ok (.iadd, 1) := by decide +kernel
theorem dX13_move_140 : decode cX13_move 140 = .ok (.putfield 193, 3) := by decide +kernel
theorem dX13_move_143 : decode cX13_move 143 = .ok (.aload 6, 2) := by decide +kernel
theorem dX13_move_145 : decode cX13_move 145 = .ok (.iconst (-1), 1) := by decide +kernel
theorem dX13_move_146 : decode cX13_move 146 = .ok (.invokevirtual 170, 3) := by decide +kernel
theorem dX13_move_149 : decode cX13_move 149 = .ok (.aload_n 0, 1) := by decide +kernel
theorem dX13_move_150 : decode cX13_move 150 = .ok (.aload 6, 2) := by decide +kernel
theorem dX13_move_152 : decode cX13_move 152 = .ok (.getfield 193, 3) := by decide +kernel
theorem dX13_move_155 : decode cX13_move 155 = .ok (.invokevirtual 86, 3) := by decide +kernel
theorem dX13_move_158 : decode cX13_move 158 = .ok (.ireturn, 1) := by decide +kernel
theorem wd_825 : Cond.fieldLink RX12 135 RX12 "undone" "I" ∈ lw_good := mem_t5 129 (by decide +kernel) rfl
theorem wd_826 : Cond.fieldLink RX12 104 RX12 "latest" "[I" ∈ lw_good := mem_t5 181 (by decide +kernel) rfl
theorem wd_827 : Cond.methodLink RX13 170 yX12_remember ∈ lw_good := mem_t6 227 (by decide +kernel) rfl
theorem wd_828 : Cond.instanceMethod yX12_remember ∈ lw_good := mem_t6 228 (by decide +kernel) rfl
theorem wd_829 : Cond.selects RX12 yX12_remember yX12_remember ∈ lw_good := mem_t6 229 (by decide +kernel) rfl
theorem wd_830 : Cond.code yX12_remember cX12_remember 3 none ∈ lw_good := mem_t6 230 rfl rfl
theorem wd_831 : Cond.fieldLink RX13 89 RX13 "partnerCount" "I" ∈ lw_good := mem_t6 64 (by decide +kernel) rfl
theorem wd_832 : Cond.methodLink RX13 138 yX13_begins ∈ lw_good := mem_t6 180 (by decide +kernel) rfl
theorem wd_833 : Cond.instanceMethod yX13_begins ∈ lw_good := mem_t6 182 (by decide +kernel) rfl
theorem wd_834 : Cond.selects RX13 yX13_begins yX13_begins ∈ lw_good := mem_p 33 (by decide +kernel) rfl
theorem wd_835 : Cond.code yX13_begins cX13_begins 7 (some .int) ∈ lw_good := mem_t6 183 rfl rfl
/-- field j of House a is a natural below b -/
def FL (a j b : Nat) (M : Hp) : Prop := ∃ (fs : List Value) (n : Nat), M a = .inr (12, fs) ∧ fs[j]? = some (.int (nI n)) ∧ n < b
theorem le24n {n : Nat} (h : n ≤ 24) : (-1000000) ≤ nI n ∧ nI n ≤ 24 := by
  constructor
  · apply Int32.le_iff_toInt_le.mpr
    rw [nI_toInt (by omega), show (-1000000 : Int32).toInt = -1000000 from rfl]
    omega
  · exact nI_le h (by decide)
theorem nar01 (x : Int32) : vp_nar .boolean x = 0 ∨ vp_nar .boolean x = 1 := by
  show x &&& 1 = 0 ∨ x &&& 1 = 1
  have e : (x &&& 1).toBitVec = x.toBitVec &&& 1#32 := rfl
  have h : x.toBitVec &&& 1#32 = 0#32 ∨ x.toBitVec &&& 1#32 = 1#32 := by
    have h1 : (x.toBitVec &&& 1#32).toNat = x.toBitVec.toNat % 2 := by
      rw [BitVec.toNat_and]
      exact Nat.and_one_is_mod _
    rcases Nat.mod_two_eq_zero_or_one x.toBitVec.toNat with q | q
    · exact Or.inl (BitVec.eq_of_toNat_eq (by rw [h1, q]; rfl))
    · exact Or.inr (BitVec.eq_of_toNat_eq (by rw [h1, q]; rfl))
  rcases h with h | h
  · exact Or.inl (Int32.toBitVec_inj.mp (e.trans h))
  · exact Or.inr (Int32.toBitVec_inj.mp (e.trans h))
