theorem dX0_append_0 : decode cX0_append 0 = .ok (.aload_n 0, 1) := by decide +kernel
theorem dX0_append_1 : decode cX0_append 1 = .ok (.getfield 25, 3) := by decide +kernel
theorem dX0_append_4 : decode cX0_append 4 = .ok (.aload_n 0, 1) := by decide +kernel
theorem dX0_append_5 : decode cX0_append 5 = .ok (.getfield 11, 3) := by decide +kernel
theorem dX0_append_8 : decode cX0_append 8 = .ok (.arraylength, 1) := by decide +kernel
theorem dX0_append_9 : decode cX0_append 9 = .ok (.if_icmp .lt 5, 3) := by decide +kernel
theorem dX0_append_12 : decode cX0_append 12 = .ok (.aconst_null, 1) := by decide +kernel
theorem dX0_append_13 : decode cX0_append 13 = .ok (.areturn, 1) := by decide +kernel
theorem dX0_append_14 : decode cX0_append 14 = .ok (.aload_n 0, 1) := by decide +kernel
theorem dX0_append_15 : decode cX0_append 15 = .ok (.getfield 11, 3) := by decide +kernel
theorem dX0_append_18 : decode cX0_append 18 = .ok (.aload_n 0, 1) := by decide +kernel
theorem dX0_append_19 : decode cX0_append 19 = .ok (.getfield 25, 3) := by decide +kernel
theorem dX0_append_22 : decode cX0_append 22 = .ok (.aaload, 1) := by decide +kernel
theorem dX0_append_23 : decode cX0_append 23 = .ok (.ifnonnull 19, 3) := by decide +kernel
theorem dX0_append_26 : decode cX0_append 26 = .ok (.aload_n 0, 1) := by decide +kernel
theorem dX0_append_27 : decode cX0_append 27 = .ok (.getfield 11, 3) := by decide +kernel
theorem dX0_append_30 : decode cX0_append 30 = .ok (.aload_n 0, 1) := by decide +kernel
theorem dX0_append_31 : decode cX0_append 31 = .ok (.getfield 25, 3) := by decide +kernel
theorem dX0_append_34 : decode cX0_append 34 = .ok (.new 9, 3) := by decide +kernel
theorem dX0_append_37 : decode cX0_append 37 = .ok (.dup, 1) := by decide +kernel
theorem dX0_append_38 : decode cX0_append 38 = .ok (.invokespecial 29, 3) := by decide +kernel
theorem dX0_append_41 : decode cX0_append 41 = .ok (.aastore, 1) := by decide +kernel
theorem dX0_append_42 : decode cX0_append 42 = .ok (.aload_n 0, 1) := by decide +kernel
theorem dX0_append_43 : decode cX0_append 43 = .ok (.getfield 11, 3) := by decide +kernel
theorem dX0_append_46 : decode cX0_append 46 = .ok (.aload_n 0, 1) := by decide +kernel
theorem dX0_append_47 : decode cX0_append 47 = .ok (.getfield 25, 3) := by decide +kernel
theorem dX0_append_50 : decode cX0_append 50 = .ok (.aaload, 1) := by decide +kernel
theorem dX0_append_51 : decode cX0_append 51 = .ok (.astore_n 2, 1) := by decide +kernel
theorem dX0_append_52 : decode cX0_append 52 = .ok (.aload_n 0, 1) := by decide +kernel
theorem dX0_append_53 : decode cX0_append 53 = .ok (.dup, 1) := by decide +kernel
theorem dX0_append_54 : decode cX0_append 54 = .ok (.getfield 25, 3) := by decide +kernel
theorem dX0_append_57 : decode cX0_append 57 = .ok (.iconst 1, 1) := by decide +kernel
theorem dX0_append_58 : decode cX0_append 58 = .ok (.iadd, 1) := by decide +kernel
theorem dX0_append_59 : decode cX0_append 59 = .ok (.putfield 25, 3) := by decide +kernel
theorem dX0_append_62 : decode cX0_append 62 = .ok (.aload_n 2, 1) := by decide +kernel
theorem dX0_append_63 : decode cX0_append 63 = .ok (.iload_n 1, 1) := by decide +kernel
theorem dX0_append_64 : decode cX0_append 64 = .ok (.invokevirtual 30, 3) := by decide +kernel
theorem dX0_append_67 : decode cX0_append 67 = .ok (.aload_n 2, 1) := by decide +kernel
theorem dX0_append_68 : decode cX0_append 68 = .ok (.areturn, 1) := by decide +kernel
theorem dX0_closeYear_0 : decode cX0_closeYear 0 = .ok (.aload_n 0, 1) := by decide +kernel
theorem dX0_closeYear_1 : decode cX0_closeYear 1 = .ok (.iconst 0, 1) := by decide +kernel
theorem dX0_closeYear_2 : decode cX0_closeYear 2 = .ok (.putfield 25, 3) := by decide +kernel
theorem dX0_closeYear_5 : decode cX0_closeYear 5 = .ok (.aload_n 0, 1) := by decide +kernel
theorem dX0_closeYear_6 : decode cX0_closeYear 6 = .ok (.aload_n 1, 1) := by decide +kernel
theorem dX0_closeYear_7 : decode cX0_closeYear 7 = .ok (.iload_n 2, 1) := by decide +kernel
theorem dX0_closeYear_8 : decode cX0_closeYear 8 = .ok (.invokevirtual 42, 3) := by decide +kernel
theorem dX0_closeYear_11 : decode cX0_closeYear 11 = .ok (.aload_n 0, 1) := by decide +kernel
theorem dX0_closeYear_12 : decode cX0_closeYear 12 = .ok (.aload_n 1, 1) := by decide +kernel
theorem dX0_closeYear_13 : decode cX0_closeYear 13 = .ok (.invokevirtual 46, 3) := by decide +kernel
theorem dX0_closeYear_16 : decode cX0_closeYear 16 = .ok (.aload_n 0, 1) := by decide +kernel
theorem dX0_closeYear_17 : decode cX0_closeYear 17 = .ok (.aload_n 1, 1) := by decide +kernel
theorem dX0_closeYear_18 : decode cX0_closeYear 18 = .ok (.invokevirtual 50, 3) := by decide +kernel
theorem dX0_closeYear_21 : decode cX0_closeYear 21 = .ok (.aload_n 0, 1) := by decide +kernel
theorem dX0_closeYear_22 : decode cX0_closeYear 22 = .ok (.aload_n 1, 1) := by decide +kernel
theorem dX0_closeYear_23 : decode cX0_closeYear 23 = .ok (.invokevirtual 53, 3) := by decide +kernel
theorem dX0_closeYear_26 : decode cX0_closeYear 26 = .ok (.aload_n 0, 1) := by decide +kernel
theorem dX0_closeYear_27 : decode cX0_closeYear 27 = .ok (.aload_n 1, 1) := by decide +kernel
theorem dX0_closeYear_28 : decode cX0_closeYear 28 = .ok (.invokevirtual 56, 3) := by decide +kernel
theorem dX0_closeYear_31 : decode cX0_closeYear 31 = .ok (.aload_n 0, 1) := by decide +kernel
theorem dX0_closeYear_32 : decode cX0_closeYear 32 = .ok (.dup, 1) := by decide +kernel
theorem dX0_closeYear_33 : decode cX0_closeYear 33 = .ok (.getfield 59, 3) := by decide +kernel
theorem dX0_closeYear_36 : decode cX0_closeYear 36 = .ok (.aload_n 0, 1) := by decide +kernel
theorem dX0_closeYear_37 : decode cX0_closeYear 37 = .ok (.invokevirtual 62, 3) := by decide +kernel
theorem dX0_closeYear_40 : decode cX0_closeYear 40 = .ok (.ladd, 1) := by decide +kernel
theorem dX0_closeYear_41 : decode cX0_closeYear 41 = .ok (.putfield 59, 3) := by decide +kernel
theorem dX0_closeYear_44 : decode cX0_closeYear 44 = .ok (.aload_n 1, 1) := by decide +kernel
theorem dX0_closeYear_45 : decode cX0_closeYear 45 = .ok (.getfield 66, 3) := by decide +kernel
theorem dX0_closeYear_48 : decode cX0_closeYear 48 = .ok (.iload_n 2, 1) := by decide +kernel
theorem dX0_closeYear_49 : decode cX0_closeYear 49 = .ok (.invokevirtual 72, 3) := by decide +kernel
theorem dX0_closeYear_52 : decode cX0_closeYear 52 = .ok (.aload_n 1, 1) := by decide +kernel
theorem dX0_closeYear_53 : decode cX0_closeYear 53 = .ok (.getfield 77, 3) := by decide +kernel
theorem dX0_closeYear_56 : decode cX0_closeYear 56 = .ok (.iconst 0, 1) := by decide +kernel
theorem dX0_closeYear_57 : decode cX0_closeYear 57 = .ok (.putfield 80, 3) := by decide +kernel
theorem dX0_closeYear_60 : decode cX0_closeYear 60 = .ok (.aload_n 1, 1) := by decide +kernel
theorem dX0_closeYear_61 : decode cX0_closeYear 61 = .ok (.getfield 81, 3) := by decide +kernel
theorem dX0_closeYear_64 : decode cX0_closeYear 64 = .ok (.invokevirtual 85, 3) := by decide +kernel
theorem dX0_closeYear_67 : decode cX0_closeYear 67 = .ok (.aload_n 1, 1) := by decide +kernel
theorem dX0_closeYear_68 : decode cX0_closeYear 68 = .ok (.iload_n 2, 1) := by decide +kernel
theorem dX0_closeYear_69 : decode cX0_closeYear 69 = .ok (.putfield 90, 3) := by decide +kernel
theorem dX0_closeYear_72 : decode cX0_closeYear 72 = .ok (.aload_n 1, 1) := by decide +kernel
theorem dX0_closeYear_73 : decode cX0_closeYear 73 = .ok (.dup, 1) := by decide +kernel
theorem dX0_closeYear_74 : decode cX0_closeYear 74 = .ok (.getfield 93, 3) := by decide +kernel
theorem dX0_closeYear_77 : decode cX0_closeYear 77 = .ok (.iconst 1, 1) := by decide +kernel
theorem dX0_closeYear_78 : decode cX0_closeYear 78 = .ok (.iadd, 1) := by decide +kernel
theorem dX0_closeYear_79 : decode cX0_closeYear 79 = .ok (.putfield 93, 3) := by decide +kernel
theorem dX0_closeYear_82 : decode cX0_closeYear 82 = .ok (.aload_n 0, 1) := by decide +kernel
theorem dX0_closeYear_83 : decode cX0_closeYear 83 = .ok (.aload_n 1, 1) := by decide +kernel
theorem dX0_closeYear_84 : decode cX0_closeYear 84 = .ok (.iload_n 2, 1) := by decide +kernel
theorem dX0_closeYear_85 : decode cX0_closeYear 85 = .ok (.invokevirtual 96, 3) := by decide +kernel
theorem dX0_closeYear_88 : decode cX0_closeYear 88 = .ok (.return_, 1) := by decide +kernel
theorem dX0_partDays_0 : decode cX0_partDays 0 = .ok (.aconst_null, 1) := by decide +kernel
theorem dX0_partDays_1 : decode cX0_partDays 1 = .ok (.astore_n 3, 1) := by decide +kernel
theorem dX0_partDays_2 : decode cX0_partDays 2 = .ok (.iconst 0, 1) := by decide +kernel
theorem dX0_partDays_3 : decode cX0_partDays 3 = .ok (.aload_n 1, 1) := by decide +kernel
theorem dX0_partDays_4 : decode cX0_partDays 4 = .ok (.getfield 90, 3) := by decide +kernel
theorem dX0_partDays_7 : decode cX0_partDays 7 = .ok (.iconst 1, 1) := by decide +kernel
theorem dX0_partDays_8 : decode cX0_partDays 8 = .ok (.iadd, 1) := by decide +kernel
theorem dX0_partDays_9 : decode cX0_partDays 9 = .ok (.invokestatic 99, 3) := by decide +kernel
theorem dX0_partDays_12 : decode cX0_partDays 12 = .ok (.istore 4, 2) := by decide +kernel
theorem dX0_partDays_14 : decode cX0_partDays 14 = .ok (.iload 4, 2) := by decide +kernel
theorem dX0_partDays_16 : decode cX0_partDays 16 = .ok (.iload_n 2, 1) := by decide +kernel
theorem dX0_partDays_17 : decode cX0_partDays 17 = .ok (.if_icmp .gt 74, 3) := by decide +kernel
theorem dX0_partDays_20 : decode cX0_partDays 20 = .ok (.iload 4, 2) := by decide +kernel
theorem dX0_partDays_22 : decode cX0_partDays 22 = .ok (.sipush 999, 3) := by decide +kernel
theorem dX0_partDays_25 : decode cX0_partDays 25 = .ok (.if_icmp .gt 66, 3) := by decide +kernel
theorem dX0_partDays_28 : decode cX0_partDays 28 = .ok (.aload_n 3, 1) := by decide +kernel
theorem dX0_partDays_29 : decode cX0_partDays 29 = .ok (.ifnull 12, 3) := by decide +kernel
theorem dX0_partDays_32 : decode cX0_partDays 32 = .ok (.aload_n 1, 1) := by decide +kernel
theorem dX0_partDays_33 : decode cX0_partDays 33 = .ok (.iload 4, 2) := by decide +kernel
theorem dX0_partDays_35 : decode cX0_partDays 35 = .ok (.invokevirtual 105, 3) := by decide +kernel
theorem dX0_partDays_38 : decode cX0_partDays 38 = .ok (.ifCond .eq 10, 3) := by decide +kernel
theorem dX0_partDays_41 : decode cX0_partDays 41 = .ok (.aload_n 0, 1) := by decide +kernel
theorem dX0_partDays_42 : decode cX0_partDays 42 = .ok (.iload 4, 2) := by decide +kernel
theorem dX0_partDays_44 : decode cX0_partDays 44 = .ok (.invokevirtual 109, 3) := by decide +kernel
theorem dX0_partDays_47 : decode cX0_partDays 47 = .ok (.astore_n 3, 1) := by decide +kernel
theorem dX0_partDays_48 : decode cX0_partDays 48 = .ok (.aload_n 3, 1) := by decide +kernel
theorem dX0_partDays_49 : decode cX0_partDays 49 = .ok (.ifnull 36, 3) := by decide +kernel
theorem dX0_partDays_52 : decode cX0_partDays 52 = .ok (.aload_n 3, 1) := by decide +kernel
theorem dX0_partDays_53 : decode cX0_partDays 53 = .ok (.dup, 1) := by decide +kernel
theorem dX0_partDays_54 : decode cX0_partDays 54 = .ok (.getfield 112, 3) := by decide +kernel
theorem dX0_partDays_57 : decode cX0_partDays 57 = .ok (.iconst 1, 1) := by decide +kernel
theorem dX0_partDays_58 : decode cX0_partDays 58 = .ok (.iadd, 1) := by decide +kernel
theorem dX0_partDays_59 : decode cX0_partDays 59 = .ok (.putfield 112, 3) := by decide +kernel
theorem dX0_partDays_62 : decode cX0_partDays 62 = .ok (.aload_n 3, 1) := by decide +kernel
theorem dX0_partDays_63 : decode cX0_partDays 63 = .ok (.dup, 1) := by decide +kernel
theorem dX0_partDays_64 : decode cX0_partDays 64 = .ok (.getfield 115, 3) := by decide +kernel
theorem dX0_partDays_67 : decode cX0_partDays 67 = .ok (.aload_n 1, 1) := by decide +kernel
theorem dX0_partDays_68 : decode cX0_partDays 68 = .ok (.iload 4, 2) := by decide +kernel
theorem dX0_partDays_70 : decode cX0_partDays 70 = .ok (.invokevirtual 118, 3) := by decide +kernel
theorem dX0_partDays_73 : decode cX0_partDays 73 = .ok (.aload_n 1, 1) := by decide +kernel
theorem dX0_partDays_74 : decode cX0_partDays 74 = .ok (.getfield 122, 3) := by decide +kernel
theorem dX0_partDays_77 : decode cX0_partDays 77 = .ok (.iload 4, 2) := by decide +kernel
theorem dX0_partDays_79 : decode cX0_partDays 79 = .ok (.laload, 1) := by decide +kernel
theorem dX0_partDays_80 : decode cX0_partDays 80 = .ok (.ladd, 1) := by decide +kernel
theorem dX0_partDays_81 : decode cX0_partDays 81 = .ok (.ladd, 1) := by decide +kernel
theorem dX0_partDays_82 : decode cX0_partDays 82 = .ok (.putfield 115, 3) := by decide +kernel
theorem dX0_partDays_85 : decode cX0_partDays 85 = .ok (.iinc 4 1, 3) := by decide +kernel
theorem dX0_partDays_88 : decode cX0_partDays 88 = .ok (.goto (-74), 3) := by decide +kernel
theorem dX0_partDays_91 : decode cX0_partDays 91 = .ok (.return_, 1) := by decide +kernel
theorem dX0_settleMends_0 : decode cX0_settleMends 0 = .ok (.iconst 0, 1) := by decide +kernel
theorem dX0_settleMends_1 : decode cX0_settleMends 1 = .ok (.istore_n 2, 1) := by decide +kernel
theorem dX0_settleMends_2 : decode cX0_settleMends 2 = .ok (.iload_n 2, 1) := by decide +kernel
theorem dX0_settleMends_3 : decode cX0_settleMends 3 = .ok (.aload_n 1, 1) := by decide +kernel
theorem dX0_settleMends_4 : decode cX0_settleMends 4 = .ok (.getfield 77, 3) := by decide +kernel
theorem dX0_settleMends_7 : decode cX0_settleMends 7 = .ok (.getfield 80, 3) := by decide +kernel
theorem dX0_settleMends_10 : decode cX0_settleMends 10 = .ok (.if_icmp .ge 107, 3) := by decide +kernel
theorem dX0_settleMends_13 : decode cX0_settleMends 13 = .ok (.aload_n 0, 1) := by decide +kernel
theorem dX0_settleMends_14 : decode cX0_settleMends 14 = .ok (.aload_n 1, 1) := by decide +kernel
theorem dX0_settleMends_15 : decode cX0_settleMends 15 = .ok (.getfield 77, 3) := by decide +kernel
theorem dX0_settleMends_18 : decode cX0_settleMends 18 = .ok (.getfield 174, 3) := by decide +kernel
theorem dX0_settleMends_21 : decode cX0_settleMends 21 = .ok (.iload_n 2, 1) := by decide +kernel
theorem dX0_settleMends_22 : decode cX0_settleMends 22 = .ok (.iaload, 1) := by decide +kernel
theorem dX0_settleMends_23 : decode cX0_settleMends 23 = .ok (.invokevirtual 109, 3) := by decide +kernel
theorem dX0_settleMends_26 : decode cX0_settleMends 26 = .ok (.astore_n 3, 1) := by decide +kernel
theorem dX0_settleMends_27 : decode cX0_settleMends 27 = .ok (.aload_n 3, 1) := by decide +kernel
theorem dX0_settleMends_28 : decode cX0_settleMends 28 = .ok (.ifnonnull 7, 3) := by decide +kernel
theorem dX0_settleMends_31 : decode cX0_settleMends 31 = .ok (.aconst_null, 1) := by decide +kernel
theorem dX0_settleMends_32 : decode cX0_settleMends 32 = .ok (.goto 11, 3) := by decide +kernel
theorem dX0_settleMends_35 : decode cX0_settleMends 35 = .ok (.aload_n 1, 1) := by decide +kernel
theorem dX0_settleMends_36 : decode cX0_settleMends 36 = .ok (.aload_n 3, 1) := by decide +kernel
theorem dX0_settleMends_37 : decode cX0_settleMends 37 = .ok (.getfield 145, 3) := by decide +kernel
theorem dX0_settleMends_40 : decode cX0_settleMends 40 = .ok (.invokevirtual 148, 3) := by decide +kernel
theorem dX0_settleMends_43 : decode cX0_settleMends 43 = .ok (.astore 4, 2) := by decide +kernel
theorem dX0_settleMends_45 : decode cX0_settleMends 45 = .ok (.aload_n 3, 1) := by decide +kernel
theorem dX0_settleMends_46 : decode cX0_settleMends 46 = .ok (.ifnull 65, 3) := by decide +kernel
theorem dX0_settleMends_49 : decode cX0_settleMends 49 = .ok (.aload 4, 2) := by decide +kernel
theorem dX0_settleMends_51 : decode cX0_settleMends 51 = .ok (.ifnonnull 6, 3) := by decide +kernel
theorem dX0_settleMends_54 : decode cX0_settleMends 54 = .ok (.goto 57, 3) := by decide +kernel
theorem dX0_settleMends_57 : decode cX0_settleMends 57 = .ok (.aload_n 3, 1) := by decide +kernel
theorem dX0_settleMends_58 : decode cX0_settleMends 58 = .ok (.aload_n 1, 1) := by decide +kernel
theorem dX0_settleMends_59 : decode cX0_settleMends 59 = .ok (.invokevirtual 152, 3) := by decide +kernel
theorem dX0_settleMends_62 : decode cX0_settleMends 62 = .ok (.aload_n 3, 1) := by decide +kernel
theorem dX0_settleMends_63 : decode cX0_settleMends 63 = .ok (.aload_n 1, 1) := by decide +kernel
theorem dX0_settleMends_64 : decode cX0_settleMends 64 = .ok (.getfield 77, 3) := by decide +kernel
theorem dX0_settleMends_67 : decode cX0_settleMends 67 = .ok (.getfield 177, 3) := by decide +kernel
theorem dX0_settleMends_70 : decode cX0_settleMends 70 = .ok (.iload_n 2, 1) := by decide +kernel
theorem dX0_settleMends_71 : decode cX0_settleMends 71 = .ok (.iaload, 1) := by decide +kernel
theorem dX0_settleMends_72 : decode cX0_settleMends 72 = .ok (.i2l, 1) := by decide +kernel
theorem dX0_settleMends_73 : decode cX0_settleMends 73 = .ok (.putfield 115, 3) := by decide +kernel
theorem dX0_settleMends_76 : decode cX0_settleMends 76 = .ok (.aload_n 3, 1) := by decide +kernel
theorem dX0_settleMends_77 : decode cX0_settleMends 77 = .ok (.getfield 115, 3) := by decide +kernel
theorem dX0_settleMends_80 : decode cX0_settleMends 80 = .ok (.lconst 0, 1) := by decide +kernel
theorem dX0_settleMends_81 : decode cX0_settleMends 81 = .ok (.lcmp, 1) := by decide +kernel
theorem dX0_settleMends_82 : decode cX0_settleMends 82 = .ok (.ifCond .le 17, 3) := by decide +kernel
theorem dX0_settleMends_85 : decode cX0_settleMends 85 = .ok (.aload_n 0, 1) := by decide +kernel
theorem dX0_settleMends_86 : decode cX0_settleMends 86 = .ok (.aload_n 3, 1) := by decide +kernel
theorem dX0_settleMends_87 : decode cX0_settleMends 87 = .ok (.aload 4, 2) := by decide +kernel
theorem dX0_settleMends_89 : decode cX0_settleMends 89 = .ok (.aload_n 3, 1) := by decide +kernel
theorem dX0_settleMends_90 : decode cX0_settleMends 90 = .ok (.getfield 115, 3) := by decide +kernel
theorem dX0_settleMends_93 : decode cX0_settleMends 93 = .ok (.invokevirtual 167, 3) := by decide +kernel
theorem dX0_settleMends_96 : decode cX0_settleMends 96 = .ok (.goto 15, 3) := by decide +kernel
theorem dX0_settleMends_99 : decode cX0_settleMends 99 = .ok (.aload_n 0, 1) := by decide +kernel
theorem dX0_settleMends_100 : decode cX0_settleMends 100 = .ok (.aload_n 3, 1) := by decide +kernel
theorem dX0_settleMends_101 : decode cX0_settleMends 101 = .ok (.aload 4, 2) := by decide +kernel
theorem dX0_settleMends_103 : decode cX0_settleMends 103 = .ok (.aload_n 3, 1) := by decide +kernel
theorem dX0_settleMends_104 : decode cX0_settleMends 104 = .ok (.getfield 115, 3) := by decide +kernel
theorem dX0_settleMends_107 : decode cX0_settleMends 107 = .ok (.lneg, 1) := by decide +kernel
theorem dX0_settleMends_108 : decode cX0_settleMends 108 = .ok (.invokevirtual 171, 3) := by decide +kernel
theorem dX0_settleMends_111 : decode cX0_settleMends 111 = .ok (.iinc 2 1, 3) := by decide +kernel
theorem dX0_settleMends_114 : decode cX0_settleMends 114 = .ok (.goto (-112), 3) := by decide +kernel
theorem dX0_settleMends_117 : decode cX0_settleMends 117 = .ok (.return_, 1) := by decide +kernel
theorem dX11_close_0 : decode cX11_close 0 = .ok (.aload_n 0, 1) := by decide +kernel
theorem dX11_close_1 : decode cX11_close 1 = .ok (.iload_n 1, 1) := by decide +kernel
theorem dX11_close_2 : decode cX11_close 2 = .ok (.invokevirtual 65, 3) := by decide +kernel
theorem dX11_close_5 : decode cX11_close 5 = .ok (.astore_n 2, 1) := by decide +kernel
theorem dX11_close_6 : decode cX11_close 6 = .ok (.aload_n 2, 1) := by decide +kernel
theorem dX11_close_7 : decode cX11_close 7 = .ok (.ifnonnull 9, 3) := by decide +kernel
theorem dX11_close_10 : decode cX11_close 10 = .ok (.aload_n 0, 1) := by decide +kernel
theorem dX11_close_11 : decode cX11_close 11 = .ok (.iconst 1, 1) := by decide +kernel
theorem dX11_close_12 : decode cX11_close 12 = .ok (.invokevirtual 47, 3) := by decide +kernel
theorem dX11_close_15 : decode cX11_close 15 = .ok (.ireturn, 1) := by decide +kernel
theorem dX11_close_16 : decode cX11_close 16 = .ok (.aload_n 2, 1) := by decide +kernel
theorem dX11_close_17 : decode cX11_close 17 = .ok (.getfield 269, 3) := by decide +kernel
theorem dX11_close_20 : decode cX11_close 20 = .ok (.aload_n 2, 1) := by decide +kernel
theorem dX11_close_21 : decode cX11_close 21 = .ok (.getfield 263, 3) := by decide +kernel
theorem dX11_close_24 : decode cX11_close 24 = .ok (.if_icmp .ge 12, 3) := by decide +kernel
theorem dX11_close_27 : decode cX11_close 27 = .ok (.aload_n 2, 1) := by decide +kernel
theorem dX11_close_28 : decode cX11_close 28 = .ok (.getfield 269, 3) := by decide +kernel
theorem dX11_close_31 : decode cX11_close 31 = .ok (.bipush 12, 2) := by decide +kernel
theorem dX11_close_33 : decode cX11_close 33 = .ok (.if_icmp .lt 10, 3) := by decide +kernel
theorem dX11_close_36 : decode cX11_close 36 = .ok (.aload_n 0, 1) := by decide +kernel
theorem dX11_close_37 : decode cX11_close 37 = .ok (.bipush 6, 2) := by decide +kernel
theorem dX11_close_39 : decode cX11_close 39 = .ok (.invokevirtual 47, 3) := by decide +kernel
theorem dX11_close_42 : decode cX11_close 42 = .ok (.ireturn, 1) := by decide +kernel
theorem dX11_close_43 : decode cX11_close 43 = .ok (.aload_n 2, 1) := by decide +kernel
theorem dX11_close_44 : decode cX11_close 44 = .ok (.getfield 161, 3) := by decide +kernel
theorem dX11_close_47 : decode cX11_close 47 = .ok (.ifCond .ne 9, 3) := by decide +kernel
theorem dX11_close_50 : decode cX11_close 50 = .ok (.aload_n 0, 1) := by decide +kernel
theorem dX11_close_51 : decode cX11_close 51 = .ok (.iconst 1, 1) := by decide +kernel
theorem dX11_close_52 : decode cX11_close 52 = .ok (.invokevirtual 47, 3) := by decide +kernel
theorem dX11_close_55 : decode cX11_close 55 = .ok (.ireturn, 1) := by decide +kernel
theorem dX11_close_56 : decode cX11_close 56 = .ok (.aload_n 2, 1) := by decide +kernel
theorem dX11_close_57 : decode cX11_close 57 = .ok (.getfield 266, 3) := by decide +kernel
theorem dX11_close_60 : decode cX11_close 60 = .ok (.aload_n 2, 1) := by decide +kernel
theorem dX11_close_61 : decode cX11_close 61 = .ok (.getfield 269, 3) := by decide +kernel
theorem dX11_close_64 : decode cX11_close 64 = .ok (.iaload, 1) := by decide +kernel
theorem dX11_close_65 : decode cX11_close 65 = .ok (.istore_n 3, 1) := by decide +kernel
theorem dX11_close_66 : decode cX11_close 66 = .ok (.aload_n 2, 1) := by decide +kernel
theorem dX11_close_67 : decode cX11_close 67 = .ok (.invokevirtual 272, 3) := by decide +kernel
theorem dX11_close_70 : decode cX11_close 70 = .ok (.istore 4, 2) := by decide +kernel
theorem dX11_close_72 : decode cX11_close 72 = .ok (.iload 4, 2) := by decide +kernel
theorem dX11_close_74 : decode cX11_close 74 = .ok (.iload_n 3, 1) := by decide +kernel
theorem dX11_close_75 : decode cX11_close 75 = .ok (.if_icmp .gt 11, 3) := by decide +kernel
theorem dX11_close_78 : decode cX11_close 78 = .ok (.aload_n 0, 1) := by decide +kernel
theorem dX11_close_79 : decode cX11_close 79 = .ok (.iconst 5, 1) := by decide +kernel
theorem dX11_close_80 : decode cX11_close 80 = .ok (.iload 4, 2) := by decide +kernel
theorem dX11_close_82 : decode cX11_close 82 = .ok (.invokevirtual 275, 3) := by decide +kernel
theorem dX11_close_85 : decode cX11_close 85 = .ok (.ireturn, 1) := by decide +kernel
theorem dX11_close_86 : decode cX11_close 86 = .ok (.aload_n 0, 1) := by decide +kernel
theorem dX11_close_87 : decode cX11_close 87 = .ok (.aload_n 2, 1) := by decide +kernel
theorem dX11_close_88 : decode cX11_close 88 = .ok (.iload_n 3, 1) := by decide +kernel
theorem dX11_close_89 : decode cX11_close 89 = .ok (.invokevirtual 279, 3) := by decide +kernel
theorem dX11_close_92 : decode cX11_close 92 = .ok (.istore 5, 2) := by decide +kernel
theorem dX11_close_94 : decode cX11_close 94 = .ok (.iload 5, 2) := by decide +kernel
theorem dX11_close_96 : decode cX11_close 96 = .ok (.iconst (-1), 1) := by decide +kernel
theorem dX11_close_97 : decode cX11_close 97 = .ok (.if_icmp .eq 12, 3) := by decide +kernel
theorem dX11_close_100 : decode cX11_close 100 = .ok (.aload_n 0, 1) := by decide +kernel
theorem dX11_close_101 : decode cX11_close 101 = .ok (.bipush 7, 2) := by decide +kernel
theorem dX11_close_103 : decode cX11_close 103 = .ok (.iload 5, 2) := by decide +kernel
theorem dX11_close_105 : decode cX11_close 105 = .ok (.invokevirtual 275, 3) := by decide +kernel
theorem dX11_close_108 : decode cX11_close 108 = .ok (.ireturn, 1) := by decide +kernel
theorem dX11_close_109 : decode cX11_close 109 = .ok (.aload_n 2, 1) := by decide +kernel
theorem dX11_close_110 : decode cX11_close 110 = .ok (.getfield 283, 3) := by decide +kernel
theorem dX11_close_113 : decode cX11_close 113 = .ok (.aload_n 2, 1) := by decide +kernel
theorem dX11_close_114 : decode cX11_close 114 = .ok (.iload_n 3, 1) := by decide +kernel
theorem dX11_close_115 : decode cX11_close 115 = .ok (.invokevirtual 287, 3) := by decide +kernel
theorem dX11_close_118 : decode cX11_close 118 = .ok (.aload_n 0, 1) := by decide +kernel
theorem dX11_close_119 : decode cX11_close 119 = .ok (.aload_n 2, 1) := by decide +kernel
theorem dX11_close_120 : decode cX11_close 120 = .ok (.getfield 269, 3) := by decide +kernel
theorem dX11_close_123 : decode cX11_close 123 = .ok (.iconst 1, 1) := by decide +kernel
theorem dX11_close_124 : decode cX11_close 124 = .ok (.isub, 1) := by decide +kernel
theorem dX11_close_125 : decode cX11_close 125 = .ok (.invokevirtual 57, 3) := by decide +kernel
theorem dX11_close_128 : decode cX11_close 128 = .ok (.ireturn, 1) := by decide +kernel
theorem wd_621 : Cond.instantiable RX8 6 ∈ lw_good := mem_t4 17 (by decide +kernel) rfl
theorem wd_622 : Cond.code yX8_init cX8_init 1 none ∈ lw_good := mem_t4 20 rfl rfl
theorem wd_623 : Cond.instanceMethod yX8_init ∈ lw_good := mem_t4 19 (by decide +kernel) rfl
theorem wd_624 : Cond.methodLink RX0 30 yX8_begin ∈ lw_good := mem_t4 48 (by decide +kernel) rfl
theorem wd_625 : Cond.instanceMethod yX8_begin ∈ lw_good := mem_t4 49 (by decide +kernel) rfl
theorem wd_626 : Cond.selects RX8 yX8_begin yX8_begin ∈ lw_good := mem_t4 50 (by decide +kernel) rfl
theorem wd_627 : Cond.code yX8_begin cX8_begin 2 none ∈ lw_good := mem_t4 51 rfl rfl
theorem wd_628 : Cond.fieldLink RX0 90 RX2 "to" "I" ∈ lw_good := mem_t1 213 (by decide +kernel) rfl
theorem wd_629 : Cond.methodLink RX0 99 Lib.Math.max.name ∈ lw_good := mem_t4 4 (by decide +kernel) rfl
theorem wd_630 : Cond.methodLink RX0 109 yX0_append ∈ lw_good := mem_t4 13 (by decide +kernel) rfl
theorem wd_631 : Cond.instanceMethod yX0_append ∈ lw_good := mem_t4 14 (by decide +kernel) rfl
theorem wd_632 : Cond.selects RX0 yX0_append yX0_append ∈ lw_good := mem_t4 15 (by decide +kernel) rfl
theorem wd_633 : Cond.code yX0_append cX0_append 3 (some (.object "PartnersBook$Stretch")) ∈ lw_good := mem_t4 16 rfl rfl
theorem wd_634 : Cond.methodLink RX0 118 yX2_entriesOn ∈ lw_good := mem_t4 55 (by decide +kernel) rfl
theorem wd_635 : Cond.fieldLink RX0 122 RX2 "income" "[J" ∈ lw_good := mem_t1 237 (by decide +kernel) rfl
theorem wd_636 : Cond.methodLink RX0 105 yX2_isParted ∈ lw_good := mem_t4 5 (by decide +kernel) rfl
theorem wd_637 : Cond.instanceMethod yX2_isParted ∈ lw_good := mem_t4 6 (by decide +kernel) rfl
theorem wd_638 : Cond.selects RX2 yX2_isParted yX2_isParted ∈ lw_good := mem_t4 7 (by decide +kernel) rfl
theorem wd_639 : Cond.code yX2_isParted cX2_isParted 5 (some .boolean) ∈ lw_good := mem_t4 8 rfl rfl
theorem wd_640 : Cond.fieldLink RX0 77 RX2 "mends" "LPartnersBook$DaySums;" ∈ lw_good := mem_t2 7 (by decide +kernel) rfl
theorem wd_641 : Cond.methodLink RX0 42 yX0_partDays ∈ lw_good := mem_t4 0 (by decide +kernel) rfl
theorem wd_642 : Cond.instanceMethod yX0_partDays ∈ lw_good := mem_t4 2 (by decide +kernel) rfl
theorem wd_643 : Cond.selects RX0 yX0_partDays yX0_partDays ∈ lw_good := mem_p 10 (by decide +kernel) rfl
theorem wd_644 : Cond.code yX0_partDays cX0_partDays 5 none ∈ lw_good := mem_t4 3 rfl rfl
theorem wd_645 : Cond.methodLink RX0 46 yX0_cutLoose ∈ lw_good := mem_t4 63 (by decide +kernel) rfl
theorem wd_646 : Cond.instanceMethod yX0_cutLoose ∈ lw_good := mem_t4 65 (by decide +kernel) rfl
theorem wd_647 : Cond.selects RX0 yX0_cutLoose yX0_cutLoose ∈ lw_good := mem_p 11 (by decide +kernel) rfl
theorem wd_648 : Cond.code yX0_cutLoose cX0_cutLoose 4 none ∈ lw_good := mem_t4 66 rfl rfl
theorem wd_649 : Cond.methodLink RX0 50 yX0_settleStretches ∈ lw_good := mem_t4 94 (by decide +kernel) rfl
theorem wd_650 : Cond.instanceMethod yX0_settleStretches ∈ lw_good := mem_t4 96 (by decide +kernel) rfl
theorem wd_651 : Cond.selects RX0 yX0_settleStretches yX0_settleStretches ∈ lw_good := mem_p 13 (by decide +kernel) rfl
theorem wd_652 : Cond.code yX0_settleStretches cX0_settleStretches 7 none ∈ lw_good := mem_t4 97 rfl rfl
theorem wd_653 : Cond.methodLink RX0 53 yX0_settleMends ∈ lw_good := mem_t4 167 (by decide +kernel) rfl
theorem wd_654 : Cond.instanceMethod yX0_settleMends ∈ lw_good := mem_t4 169 (by decide +kernel) rfl
theorem wd_655 : Cond.selects RX0 yX0_settleMends yX0_settleMends ∈ lw_good := mem_p 21 (by decide +kernel) rfl
theorem wd_656 : Cond.code yX0_settleMends cX0_settleMends 5 none ∈ lw_good := mem_t4 170 rfl rfl
theorem wd_657 : Cond.methodLink RX0 56 yX0_bookDues ∈ lw_good := mem_t4 171 (by decide +kernel) rfl
theorem wd_658 : Cond.instanceMethod yX0_bookDues ∈ lw_good := mem_t4 173 (by decide +kernel) rfl
theorem wd_659 : Cond.selects RX0 yX0_bookDues yX0_bookDues ∈ lw_good := mem_p 22 (by decide +kernel) rfl
theorem wd_660 : Cond.code yX0_bookDues cX0_bookDues 6 none ∈ lw_good := mem_t4 174 rfl rfl
theorem wd_661 : Cond.fieldLink RX0 59 RX0 "nobodyOfAll" "J" ∈ lw_good := mem_t1 195 (by decide +kernel) rfl
theorem wd_662 : Cond.methodLink RX0 62 yX0_nobodyOfLatest ∈ lw_good := mem_t4 181 (by decide +kernel) rfl
theorem wd_663 : Cond.methodLink RX0 72 yX1_bookUpTo ∈ lw_good := mem_t4 185 (by decide +kernel) rfl
theorem wd_664 : Cond.instanceMethod yX1_bookUpTo ∈ lw_good := mem_t4 186 (by decide +kernel) rfl
theorem wd_665 : Cond.selects RX1 yX1_bookUpTo yX1_bookUpTo ∈ lw_good := mem_t4 187 (by decide +kernel) rfl
theorem wd_666 : Cond.code yX1_bookUpTo cX1_bookUpTo 5 none ∈ lw_good := mem_t4 188 rfl rfl
theorem wd_667 : Cond.fieldLink RX0 81 RX2 "undos" "LPartnersBook$UndoLog;" ∈ lw_good := mem_t2 10 (by decide +kernel) rfl
theorem wd_668 : Cond.methodLink RX0 85 yX10_clear ∈ lw_good := mem_t4 189 (by decide +kernel) rfl
theorem wd_669 : Cond.fieldLink RX0 93 RX2 "yearsClosed" "I" ∈ lw_good := mem_t1 219 (by decide +kernel) rfl
theorem wd_670 : Cond.methodLink RX0 96 yX0_handOver ∈ lw_good := mem_t4 190 (by decide +kernel) rfl
theorem wd_671 : Cond.instanceMethod yX0_handOver ∈ lw_good := mem_t4 192 (by decide +kernel) rfl
theorem wd_672 : Cond.selects RX0 yX0_handOver yX0_handOver ∈ lw_good := mem_p 23 (by decide +kernel) rfl
theorem wd_673 : Cond.code yX0_handOver cX0_handOver 5 none ∈ lw_good := mem_t4 193 rfl rfl
theorem wd_674 : Cond.methodLink RX11 272 yX2_firstOpenDay ∈ lw_good := mem_t3 221 (by decide +kernel) rfl
theorem wd_675 : Cond.methodLink RX11 279 yX11_firstHouseBehind ∈ lw_good := mem_t3 227 (by decide +kernel) rfl
theorem wd_676 : Cond.instanceMethod yX11_firstHouseBehind ∈ lw_good := mem_t3 229 (by decide +kernel) rfl
theorem wd_677 : Cond.selects RX11 yX11_firstHouseBehind yX11_firstHouseBehind ∈ lw_good := mem_p 9 (by decide +kernel) rfl
theorem wd_678 : Cond.code yX11_firstHouseBehind cX11_firstHouseBehind 5 (some .int) ∈ lw_good := mem_t3 230 rfl rfl
theorem wd_679 : Cond.methodLink RX11 287 yX0_closeYear ∈ lw_good := mem_t3 236 (by decide +kernel) rfl
theorem wd_680 : Cond.instanceMethod yX0_closeYear ∈ lw_good := mem_t3 237 (by decide +kernel) rfl
theorem wd_681 : Cond.selects RX0 yX0_closeYear yX0_closeYear ∈ lw_good := mem_t3 238 (by decide +kernel) rfl
theorem wd_682 : Cond.code yX0_closeYear cX0_closeYear 3 none ∈ lw_good := mem_t3 239 rfl rfl
set_option maxHeartbeats 4000000 in
set_option maxRecDepth 100000 in
theorem s_append_full (l : Launch) (D : va_G) (cy : Nat → ClassId) (K : Kp) (L : List Nat) (M : Hp) (sz : Nat) (oa : Nat) (k1 : Int32) (y0 : Nat) (y1 : Nat) (y2 : Nat) (y3 : Nat) (y4 : Int64) (hW : WOK cy K L M) (ia : isk K L oa 0 0) (hfull : 120 ≤ y3) (hMy : M oa = .inr (0, [.ref y0, .ref y1, .ref y2, .int (nI y3), .long y4])) (hy0 : isk K L y0 21 120) (hy1 : isk K L y1 66 100) (hy2 : isk K L y2 7 0) (hy3 : y3 ≤ 120) : Met l yX0_append (wsM yX0_append cX0_append 3 (some (.object "PartnersBook$Stretch"))) ({ frames := 0, cells := 0, slots := 0, locals := 0 }) (va_Pc [.ref oa, .int k1] (PG D cy [] L M sz)) (va_Qq (fun (r : Option Nat) (_ : Unit) => iskN K L r 8 0) (fun _ t => PQ D [] L M (va_A ([] ++ va_pl L M) sz) t) (va_A ([] ++ va_pl L M) sz)) 0 0 (va_A ([] ++ va_pl L M) sz) := by
  refine Met.ofW (cc := cX0_append) (maxL := 3) (ret := (some (.object "PartnersBook$Stretch"))) (by decide) rfl ?_
  intro p e s m args below meth c s₁ B hml hv
  obtain ⟨rfl, hsz, hP, hK, hD0, hN⟩ := hv
  have hx := B.exec
  have hb := B.bytes
  have hr := B.returns
  have hts := atoms_spec (ws := (wsM yX0_append cX0_append 3 (some (.object "PartnersBook$Stretch")))) B.pre
  have hg : ∀ w ∈ lw_good, w.before _ s = true := fun w h => hts w (List.mem_cons_of_mem _ h)
  have hown : s.vm.findClass RX0 = some m.cls := findClass_of_methodNamed B.named
  have hlocks := B.notSynchronized
  subst hsz
  have hD := hD0.self (sz := s.heap.size)
  generalize hAe : va_A ([] ++ va_pl L M) s.heap.size = A at hD ⊢
  have hA : ∀ q : Nat, s.heap.size ≤ q → A q := fun q h => by rw [← hAe]; exact Or.inr h
  have hS : va_S A s.heap s.heap [] := va_S.rf
  have hl := lv_entry ([.ref oa, .int k1]) (n := 3) (Nat.le_of_ble_eq_true rfl)
  rw [lg_entry_eq]
  generalize (lg_sl ([.ref oa, .int k1]) ++ List.replicate (3 - (lg_sl ([.ref oa, .int k1])).length) Slot.unset).toArray = ls at hl ⊢
  refine W.nameQ (fun Q hQ => ?_)
  refine W.nameR (fun R hR => ?_)
  have hRf : 0 ≤ R.frames := by rw [hR]; exact Nat.le_of_ble_eq_true rfl
  have hRl : 0 ≤ R.locals := by rw [hR]; exact Nat.le_of_ble_eq_true rfl
  have hRc : 0 ≤ R.cells := by rw [hR]; exact Nat.le_of_ble_eq_true rfl
  have hRs : 0 ≤ R.slots := by rw [hR]; exact Nat.le_of_ble_eq_true rfl
  have hl : lv_has ls 3 [(0, .ref oa), (1, .int k1)] := hl
  refine lv_aload_n hx hb dX0_append_0 rfl (lv_at hl 0 rfl) ?_
  refine pg_get (D := D) (ci := 0) (v := .int (nI y3)) (C := RX0) (T := TX0) (N := 5) hx hb hg inG0 hown hK hP ia.1 hMy rfl 3 (by decide) (hg _ wd_199) (fun _ h9 => h9) rfl dX0_append_1 ?_
  refine lv_aload_n hx hb dX0_append_4 rfl (lv_at hl 0 rfl) ?_
  refine pg_get (D := D) (ci := 0) (v := .ref y0) (C := RX0) (T := TX0) (N := 5) hx hb hg inG0 hown hK hP ia.1 hMy rfl 0 (by decide) (hg _ wd_200) (fun _ h9 => h9) rfl dX0_append_5 ?_
  obtain ⟨f1, hM1, hf1⟩ := hW.open_21 hy0
  refine pg_alen (v := 120) hx hb hK hP hy0.1 7 hM1 rfl (by rfl) dX0_append_8 ?_
  refine lv_icmp_lt (tgt := 14) hx hb dX0_append_9 (by decide) (fun c_2 => absurd c_2 (fun q => absurd ((iLT (a := y3) (b := 120) (by omega) (by omega)).mp q) (by omega))) (fun c_2 => ?_)
  refine lv_null hx hb dX0_append_12 ?_
  rw [hQ]
  exact W.aret (v := .null) hx hb hr (Or.inl ⟨_, rfl⟩) (Or.inl rfl) (fun t ht hW9 => ⟨⟨none, (), rfl, iskN.none, ⟨by rw [ht]; exact hP, hD⟩⟩, hS.F ht⟩) hS.2.2 dX0_append_13
set_option maxHeartbeats 4000000 in
set_option maxRecDepth 100000 in
theorem s_append (l : Launch) (D : va_G) (cy : Nat → ClassId) (K0 : Kp) (L0 : List Nat) (M0 : Hp) (sz : Nat) (oa : Nat) (k1 : Int32) (y0 : Nat) (y1 : Nat) (y2 : Nat) (y3 : Nat) (y4 : Int64) (hW : WOK cy K0 L0 M0) (ia : isk K0 L0 oa 0 0) (hroom : y3 < 120) (hMy : M0 oa = .inr (0, [.ref y0, .ref y1, .ref y2, .int (nI y3), .long y4])) (hy0 : isk K0 L0 y0 21 120) (hy1 : isk K0 L0 y1 66 100) (hy2 : isk K0 L0 y2 7 0) (hy3 : y3 ≤ 120) : Met l yX0_append (wsM yX0_append cX0_append 3 (some (.object "PartnersBook$Stretch"))) ({ frames := 2, cells := 3, slots := 18, locals := 45 }) (va_Pc [.ref oa, .int k1] (PG D cy [] L0 M0 sz)) (va_Qq (fun (r : Option Nat) (u : Kp × List Nat × Hp) => ext K0 L0 u.1 u.2.1 ∧ WOK cy u.1 u.2.1 u.2.2 ∧ fr K0 L0 [0, 8, 21, 72] M0 u.2.2 ∧ u.2.2 oa = .inr (0, [.ref y0, .ref y1, .ref y2, .int (nI (y3 + 1)), .long y4]) ∧ (iskN u.1 u.2.1 r 8 0)) (fun u t => PQ D [] u.2.1 u.2.2 (va_A ([] ++ va_pl L0 M0) sz) t) (va_A ([] ++ va_pl L0 M0) sz)) 3 18 (va_A ([] ++ va_pl L0 M0) sz) := by
  refine Met.ofW (cc := cX0_append) (maxL := 3) (ret := (some (.object "PartnersBook$Stretch"))) (by decide) rfl ?_
  intro p e s m args below meth c s₁ B hml hv
  obtain ⟨rfl, hsz, hP, hK, hD0, hN⟩ := hv
  have hx := B.exec
  have hb := B.bytes
  have hr := B.returns
  have hts := atoms_spec (ws := (wsM yX0_append cX0_append 3 (some (.object "PartnersBook$Stretch")))) B.pre
  have hg : ∀ w ∈ lw_good, w.before _ s = true := fun w h => hts w (List.mem_cons_of_mem _ h)
  have hown : s.vm.findClass RX0 = some m.cls := findClass_of_methodNamed B.named
  have hlocks := B.notSynchronized
  subst hsz
  have hD := hD0.self (sz := s.heap.size)
  generalize hAe : va_A ([] ++ va_pl L0 M0) s.heap.size = A at hD ⊢
  have hA : ∀ q : Nat, s.heap.size ≤ q → A q := fun q h => by rw [← hAe]; exact Or.inr h
  have hS : va_S A s.heap s.heap [] := va_S.rf
  have hl := lv_entry ([.ref oa, .int k1]) (n := 3) (Nat.le_of_ble_eq_true rfl)
  rw [lg_entry_eq]
  generalize (lg_sl ([.ref oa, .int k1]) ++ List.replicate (3 - (lg_sl ([.ref oa, .int k1])).length) Slot.unset).toArray = ls at hl ⊢
  refine W.nameQ (fun Q hQ => ?_)
  refine W.nameR (fun R hR => ?_)
  have hRf : 2 ≤ R.frames := by rw [hR]; exact Nat.le_of_ble_eq_true rfl
  have hRl : 45 ≤ R.locals := by rw [hR]; exact Nat.le_of_ble_eq_true rfl
  have hRc : 3 ≤ R.cells := by rw [hR]; exact Nat.le_of_ble_eq_true rfl
  have hRs : 18 ≤ R.slots := by rw [hR]; exact Nat.le_of_ble_eq_true rfl
  obtain ⟨K, L, M, hX0, hF, hW, hP, hD, ia, hMy, hy0, hy1, hy2⟩ : ∃ (K : Kp) (L : List Nat) (M : Hp), ext K0 L0 K L ∧ fr K0 L0 [0, 8, 21, 72] M0 M ∧ WOK cy K L M ∧ va_P D vwCl ([] ++ va_pl L M) s.heap ∧ va_D A ([] ++ va_pl L M) ∧ isk K L oa 0 0 ∧ M oa = .inr (0, [.ref y0, .ref y1, .ref y2, .int (nI y3), .long y4]) ∧ isk K L y0 21 120 ∧ isk K L y1 66 100 ∧ isk K L y2 7 0 := ⟨K0, L0, M0, ext.rf, fr.rf, hW, hP, hD, ia, hMy, hy0, hy1, hy2⟩
  have hl : lv_has ls 3 [(0, .ref oa), (1, .int k1)] := hl
  refine lv_aload_n hx hb dX0_append_0 rfl (lv_at hl 0 rfl) ?_
  refine pg_get (D := D) (ci := 0) (v := .int (nI y3)) (C := RX0) (T := TX0) (N := 5) hx hb hg inG0 hown hK hP ia.1 hMy rfl 3 (by decide) (hg _ wd_199) (fun _ h9 => h9) rfl dX0_append_1 ?_
  refine lv_aload_n hx hb dX0_append_4 rfl (lv_at hl 0 rfl) ?_
  refine pg_get (D := D) (ci := 0) (v := .ref y0) (C := RX0) (T := TX0) (N := 5) hx hb hg inG0 hown hK hP ia.1 hMy rfl 0 (by decide) (hg _ wd_200) (fun _ h9 => h9) rfl dX0_append_5 ?_
  obtain ⟨f1, hM1, hf1⟩ := hW.open_21 hy0
  refine pg_alen (v := 120) hx hb hK hP hy0.1 7 hM1 rfl (by rfl) dX0_append_8 ?_
  refine lv_icmp_lt (tgt := 14) hx hb dX0_append_9 (by decide) (fun c_2 => ?_) (fun c_2 => absurd ((iLT (a := y3) (b := 120) (by omega) (by omega)).mpr (by omega)) c_2)
  refine lv_aload_n hx hb dX0_append_14 rfl (lv_at hl 0 rfl) ?_
  refine pg_get (D := D) (ci := 0) (v := .ref y0) (C := RX0) (T := TX0) (N := 5) hx hb hg inG0 hown hK hP ia.1 hMy rfl 0 (by decide) (hg _ wd_200) (fun _ h9 => h9) rfl dX0_append_15 ?_
  refine lv_aload_n hx hb dX0_append_18 rfl (lv_at hl 0 rfl) ?_
  refine pg_get (D := D) (ci := 0) (v := .int (nI y3)) (C := RX0) (T := TX0) (N := 5) hx hb hg inG0 hown hK hP ia.1 hMy rfl 3 (by decide) (hg _ wd_199) (fun _ h9 => h9) rfl dX0_append_19 ?_
  have hi_3 : vp_in (nI y3) 120 := (inbN y3 120 (by omega) (by omega))
  refine pg_aldq hx hb hK hP hy0.1 7 hM1 rfl hi_3 dX0_append_22 ?_
  obtain ⟨q_4, ho_5⟩ : ∃ q : Option Nat, q = f1 ((nI y3) : Int32).toNatClampNeg := ⟨_, rfl⟩
  rw [← ho_5]
  have hq_6 : iskN K L q_4 8 0 := by rw [ho_5]; exact hf1 _ (vp_lt hi_3)
  rcases q_4 with _ | bq_4
  · have hz := rfl (a := 0)
    refine lv_ifnonnullN hx hb dX0_append_23 ?_
    refine lv_aload_n hx hb dX0_append_26 rfl (lv_at hl 0 rfl) ?_
    refine pg_get (D := D) (ci := 0) (v := .ref y0) (C := RX0) (T := TX0) (N := 5) hx hb hg inG0 hown hK hP ia.1 hMy rfl 0 (by decide) (hg _ wd_200) (fun _ h9 => h9) rfl dX0_append_27 ?_
    refine lv_aload_n hx hb dX0_append_30 rfl (lv_at hl 0 rfl) ?_
    refine pg_get (D := D) (ci := 0) (v := .int (nI y3)) (C := RX0) (T := TX0) (N := 5) hx hb hg inG0 hown hK hP ia.1 hMy rfl 3 (by decide) (hg _ wd_199) (fun _ h9 => h9) rfl dX0_append_31 ?_
    refine va_new (ci := 8) (fs := [.null, .null, .int 0, .int 0, .long 0, .long 0]) (C := RX8) (T := TX8) (N := 6) hx hb hg inG8 tyX8 tyX8_ok hown (hg _ wd_538) (hg _ wd_621) (hg _ wd_193) hK hP hD hS hA rfl dfX8 (Nat.le_trans (Nat.le_of_ble_eq_true rfl) hRc) (Nat.le_trans (Nat.le_of_ble_eq_true rfl) hRs) dX0_append_34 (fun q_8 H_9 hP hD hS => ?_)
    have hP : va_P D vwCl ([(q_8, .inr (8, [.null, .null, .int 0, .int 0, .long 0, .long 0]))] ++ va_pl L M) H_9 := hP.swap
    have hD : va_D A ([(q_8, .inr (8, [.null, .null, .int 0, .int 0, .long 0, .long 0]))] ++ va_pl L M) := hD.swap
    refine W.widen (k := 1) (n := 6) (Nat.le_of_ble_eq_true rfl) (Nat.le_of_ble_eq_true rfl) ?_
    refine lv_dup hx hb dX0_append_37 rfl ?_
    have hPc := hP.sub (ws' := [(q_8, .inr (8, [.null, .null, .int 0, .int 0, .long 0, .long 0]))]) [0] rfl
    have hDc := hD.sub (ws' := [(q_8, .inr (8, [.null, .null, .int 0, .int 0, .long 0, .long 0]))]) [0] (by decide) rfl
    have hKc := hK.sub (tys' := []) [] rfl
    have hFc := va_free (wc := [(q_8, .inr (8, [.null, .null, .int 0, .int 0, .long 0, .long 0]))]) hD hS hA [0] rfl
    refine va_callv (va_runIN (As := []) (rest := [.ref q_8, .int (nI y3), .ref y0]) ⟨hx, hb, hml, hown, hg⟩ (k_Stretch l D H_9.size q_8) ⟨va_cnB 0 hg (gB wd_622) rfl rfl rfl (hN _ (List.mem_of_getElem? (i := 5) rfl) : va_Nw (Cond.methodLinkNest RX0 29 yX8_init RX11) s) (hg _ wd_193) (by decide +kernel) ⟨(Nat.le_trans (Nat.le_of_ble_eq_true rfl) hRf), (Nat.le_trans (Nat.le_of_ble_eq_true rfl) hRl)⟩, rfl, hg _ wd_623⟩ ⟨Pr.blind, fun U hU hW => ⟨rfl, Pr.at hPc hKc hDc hN hU hW⟩⟩ rfl rfl hl.1 rfl (lv_room (Nat.le_of_ble_eq_true rfl)) dX0_append_38 ⟨(Nat.le_trans (Nat.le_of_ble_eq_true rfl) hRc), (Nat.le_trans (Nat.le_of_ble_eq_true rfl) hRs)⟩) hS (fun q _ h => hFc q h) hFc (fun M_12 t H_10 locs ht hvm hw hB hz1 hk1 hS => ?_)
    have hp_13 := hw
    obtain ⟨e0_14, e1_15, c0_16, c1_17, hP1, hK1, hD1⟩ := hB
    rw [ht] at hP1
    have hK1 := va_K.moved hvm.symm hK1
    obtain ⟨hP, hD⟩ := va_joinQ (X := [(q_8, .inr (8, [.null, .null, .int 0, .int 0, .long 0, .long 0]))]) (cx := [(q_8, .inr (8, [.null, .null, .int 0, .int 0, .long 0, .long 0]))]) (wr := []) (w1 := [(q_8, .inr (8, [.ref e0_14, .ref e1_15, .int 0, .int 0, .long 0, .long 0])), (e0_14, .inl (c0_16, 6, .inr (.inr (.inr (.inr (fun _ => none)))))), (e1_15, .inl (c1_17, 6, .inr (.inl (fun _ => 0))))]) (pl := va_pl L M) hP hD [0] [] rfl rfl (by decide) (by decide) hk1 hFc hP1 hD1
    have hP : va_P D vwCl ([(q_8, .inr (8, [.ref e0_14, .ref e1_15, .int 0, .int 0, .long 0, .long 0])), (e0_14, .inl (c0_16, 6, .inr (.inr (.inr (.inr (fun _ => none)))))), (e1_15, .inl (c1_17, 6, .inr (.inl (fun _ => 0))))] ++ va_pl L M) H_10 := hP
    have hD : va_D A ([(q_8, .inr (8, [.ref e0_14, .ref e1_15, .int 0, .int 0, .long 0, .long 0])), (e0_14, .inl (c0_16, 6, .inr (.inr (.inr (.inr (fun _ => none)))))), (e1_15, .inl (c1_17, 6, .inr (.inl (fun _ => 0))))] ++ va_pl L M) := hD
    have hK2 := hK.app hK1
    obtain rfl : c0_16 = cy 22 := cls_eq hK2 10 8 rfl rfl
    obtain rfl : c1_17 = cy 15 := cls_eq hK2 11 1 rfl rfl
    refine W.widen (k := 3) (n := 18) (Nat.le_of_ble_eq_true rfl) (Nat.le_of_ble_eq_true rfl) ?_
    have hP : va_P D vwCl (([(q_8, .inr (8, [.ref e0_14, .ref e1_15, .int 0, .int 0, .long 0, .long 0])), (e1_15, .inl ((cy 15), 6, .inr (.inl (fun _ => 0))))] ++ [(e0_14, .inl ((cy 22), 6, .inr (.inr (.inr (.inr (fun _ => none))))))]) ++ va_pl L M) H_10 := hP.part (cx := [(q_8, .inr (8, [.ref e0_14, .ref e1_15, .int 0, .int 0, .long 0, .long 0])), (e1_15, .inl ((cy 15), 6, .inr (.inl (fun _ => 0))))] ++ [(e0_14, .inl ((cy 22), 6, .inr (.inr (.inr (.inr (fun _ => none))))))]) [0, 2, 1] rfl
    have hD : va_D A (([(q_8, .inr (8, [.ref e0_14, .ref e1_15, .int 0, .int 0, .long 0, .long 0])), (e1_15, .inl ((cy 15), 6, .inr (.inl (fun _ => 0))))] ++ [(e0_14, .inl ((cy 22), 6, .inr (.inr (.inr (.inr (fun _ => none))))))]) ++ va_pl L M) := hD.part (cx := [(q_8, .inr (8, [.ref e0_14, .ref e1_15, .int 0, .int 0, .long 0, .long 0])), (e1_15, .inl ((cy 15), 6, .inr (.inl (fun _ => 0))))] ++ [(e0_14, .inl ((cy 22), 6, .inr (.inr (.inr (.inr (fun _ => none))))))]) [0, 2, 1] (by decide) rfl
    obtain ⟨K9, L9, M_18, hx9, i_19, hW, hP, hD, hM_20, hfr9, hq9⟩ := adoptE 65 6 hP hD hW (fun K' L' x i => (⟨_, rfl, fun _ _ => iskN.none⟩ : gd_65 cy K' L' 6 _))
    have hM_22 : M_18 oa = .inr (0, [.ref y0, .ref y1, .ref y2, .int (nI y3), .long y4]) := (hfr9 _ ia.1).trans hMy
    have hM_23 : M_18 y0 = .inl (cy 21, 120, .inr (.inr (.inr (.inr (f1))))) := (hfr9 _ hy0.1).trans hM1
    have hF : fr K0 L0 [0, 8, 21, 72] M0 M_18 := hF.adX hX0 hfr9
    have hX0 := hX0.tr hx9
    have i_24 := ia.ext hx9
    have i_25 := hy0.ext hx9
    have i_26 := hy1.ext hx9
    have i_27 := hy2.ext hx9
    have hf_28 := fun j q => (hf1 j q).ext hx9
    obtain ⟨K, L, hK9, hL9⟩ : ∃ (K : Kp) (L : List Nat), K = K9 ∧ L = L9 := ⟨_, _, rfl, rfl⟩
    subst hK9
    subst hL9
    have hP : va_P D vwCl ([(q_8, .inr (8, [.ref e0_14, .ref e1_15, .int 0, .int 0, .long 0, .long 0])), (e1_15, .inl ((cy 15), 6, .inr (.inl (fun _ => 0))))] ++ va_pl L M_18) H_10 := hP
    have hD : va_D A ([(q_8, .inr (8, [.ref e0_14, .ref e1_15, .int 0, .int 0, .long 0, .long 0])), (e1_15, .inl ((cy 15), 6, .inr (.inl (fun _ => 0))))] ++ va_pl L M_18) := hD
    have hP : va_P D vwCl (([(q_8, .inr (8, [.ref e0_14, .ref e1_15, .int 0, .int 0, .long 0, .long 0]))] ++ [(e1_15, .inl ((cy 15), 6, .inr (.inl (fun _ => 0))))]) ++ va_pl L M_18) H_10 := hP.part (cx := [(q_8, .inr (8, [.ref e0_14, .ref e1_15, .int 0, .int 0, .long 0, .long 0]))] ++ [(e1_15, .inl ((cy 15), 6, .inr (.inl (fun _ => 0))))]) [0, 1] rfl
    have hD : va_D A (([(q_8, .inr (8, [.ref e0_14, .ref e1_15, .int 0, .int 0, .long 0, .long 0]))] ++ [(e1_15, .inl ((cy 15), 6, .inr (.inl (fun _ => 0))))]) ++ va_pl L M_18) := hD.part (cx := [(q_8, .inr (8, [.ref e0_14, .ref e1_15, .int 0, .int 0, .long 0, .long 0]))] ++ [(e1_15, .inl ((cy 15), 6, .inr (.inl (fun _ => 0))))]) [0, 1] (by decide) rfl
    obtain ⟨K9, L9, M_29, hx9, i_30, hW, hP, hD, hM_31, hfr9, hq9⟩ := adoptE 72 6 hP hD hW (fun K' L' x i => (⟨_, rfl⟩ : gd_72 cy K' L' 6 _))
    have hM_33 : M_29 oa = .inr (0, [.ref y0, .ref y1, .ref y2, .int (nI y3), .long y4]) := (hfr9 _ i_24.1).trans hM_22
    have hM_34 : M_29 y0 = .inl (cy 21, 120, .inr (.inr (.inr (.inr (f1))))) := (hfr9 _ i_25.1).trans hM_23
    have hF : fr K0 L0 [0, 8, 21, 72] M0 M_29 := hF.adX hX0 hfr9
    have hX0 := hX0.tr hx9
    have i_35 := i_24.ext hx9
    have i_36 := i_25.ext hx9
    have i_37 := i_26.ext hx9
    have i_38 := i_27.ext hx9
    have i_39 := i_19.ext hx9
    have hf_40 := fun j q => (hf_28 j q).ext hx9
    obtain ⟨K, L, hK9, hL9⟩ : ∃ (K : Kp) (L : List Nat), K = K9 ∧ L = L9 := ⟨_, _, rfl, rfl⟩
    subst hK9
    subst hL9
    have hP : va_P D vwCl ([(q_8, .inr (8, [.ref e0_14, .ref e1_15, .int 0, .int 0, .long 0, .long 0]))] ++ va_pl L M_29) H_10 := hP
    have hD : va_D A ([(q_8, .inr (8, [.ref e0_14, .ref e1_15, .int 0, .int 0, .long 0, .long 0]))] ++ va_pl L M_29) := hD
    have hP : va_P D vwCl (([] ++ [(q_8, .inr (8, [.ref e0_14, .ref e1_15, .int 0, .int 0, .long 0, .long 0]))]) ++ va_pl L M_29) H_10 := hP.part (cx := [] ++ [(q_8, .inr (8, [.ref e0_14, .ref e1_15, .int 0, .int 0, .long 0, .long 0]))]) [0] rfl
    have hD : va_D A (([] ++ [(q_8, .inr (8, [.ref e0_14, .ref e1_15, .int 0, .int 0, .long 0, .long 0]))]) ++ va_pl L M_29) := hD.part (cx := [] ++ [(q_8, .inr (8, [.ref e0_14, .ref e1_15, .int 0, .int 0, .long 0, .long 0]))]) [0] (by decide) rfl
    obtain ⟨K9, L9, M_41, hx9, i_42, hW, hP, hD, hM_43, hfr9, hq9⟩ := adoptE 8 0 hP hD hW (fun K' L' x i => (⟨e0_14, e1_15, 0, 0, 0, 0, rfl, i_39.ext x, i_30.ext x⟩ : gd_8 K' L' _))
    have hM_44 : M_41 oa = .inr (0, [.ref y0, .ref y1, .ref y2, .int (nI y3), .long y4]) := (hfr9 _ i_35.1).trans hM_33
    have hM_45 : M_41 y0 = .inl (cy 21, 120, .inr (.inr (.inr (.inr (f1))))) := (hfr9 _ i_36.1).trans hM_34
    have hF : fr K0 L0 [0, 8, 21, 72] M0 M_41 := hF.adX hX0 hfr9
    have hX0 := hX0.tr hx9
    have i_46 := i_35.ext hx9
    have i_47 := i_36.ext hx9
    have i_48 := i_37.ext hx9
    have i_49 := i_38.ext hx9
    have hf_50 := fun j q => (hf_40 j q).ext hx9
    obtain ⟨K, L, hK9, hL9⟩ : ∃ (K : Kp) (L : List Nat), K = K9 ∧ L = L9 := ⟨_, _, rfl, rfl⟩
    subst hK9
    subst hL9
    have hP : va_P D vwCl ([] ++ va_pl L M_41) H_10 := hP
    have hD : va_D A ([] ++ va_pl L M_41) := hD
    obtain ⟨v52_0, v52_1, v52_2, v52_3, v52_4, v52_5, hM52, h52_0, h52_1⟩ := hW.open_8 i_42
    refine pg_astq (r := (RX8, TX8, 6)) hx hb hK hP hD hS i_47.1 7 8 hM_45 rfl i_42.1 hM52 rfl (inbN y3 120 (by omega) (by omega)) dX0_append_41 (fun H_51 locs hP hD hS => ?_)
    obtain ⟨M_53, eM_53⟩ : ∃ M1 : Hp, M1 = va_up M_41 y0 (.inl (cy 21, 120, .inr (.inr (.inr (.inr (va_up f1 ((nI y3) : Int32).toNatClampNeg (some q_8))))))) := ⟨_, rfl⟩
    have hP : va_P D vwCl ([] ++ va_pl L M_53) H_51 := by rw [eM_53]; exact hP
    have hD : va_D A ([] ++ va_pl L M_53) := by rw [eM_53]; exact hD
    have hW : WOK cy K L M_53 := by rw [eM_53]; exact hW.up_21 i_47 ⟨_, rfl, (upN hf_50 i_42)⟩
    have hF : fr K0 L0 [0, 8, 21, 72] M0 M_53 := by rw [eM_53]; exact hF.upX hX0 i_47 (by decide)
    have hM_54 : M_53 y0 = .inl (cy 21, 120, .inr (.inr (.inr (.inr (va_up f1 ((nI y3) : Int32).toNatClampNeg (some q_8)))))) := by rw [eM_53]; exact va_up_self _ _ _
    have hM_55 : M_53 oa = .inr (0, [.ref y0, .ref y1, .ref y2, .int (nI y3), .long y4]) := by rw [eM_53, va_up_ne _ _ (i_46.neT i_47 (by decide))]; exact hM_44
    have hM_56 : M_53 q_8 = .inr (8, [.ref v52_0, .ref v52_1, .int v52_2, .int v52_3, .long v52_4, .long v52_5]) := by rw [eM_53, va_up_ne _ _ (i_42.neT i_47 (by decide))]; exact hM52
    have hf_58 : ∀ j, j < 120 → iskN K L ((va_up f1 ((nI y3) : Int32).toNatClampNeg (some q_8)) j) 8 0 := (upN hf_50 i_42)
    obtain ⟨f_57, ef_57⟩ : ∃ f : Nat → Option Nat, f = va_up f1 ((nI y3) : Int32).toNatClampNeg (some q_8) := ⟨_, rfl⟩
    rw [← ef_57] at hM_54 hf_58
    have hk_59 : f_57 ((nI y3) : Int32).toNatClampNeg = some q_8 := by rw [ef_57]; exact va_up_self _ _ _
    clear ef_57
    refine lv_aload_n hx hb dX0_append_42 rfl (lv_at hl 0 rfl) ?_
    refine pg_get (D := D) (ci := 0) (v := .ref y0) (C := RX0) (T := TX0) (N := 5) hx hb hg inG0 hown hK hP i_46.1 hM_55 rfl 0 (by decide) (hg _ wd_200) (fun _ h9 => h9) rfl dX0_append_43 ?_
    refine lv_aload_n hx hb dX0_append_46 rfl (lv_at hl 0 rfl) ?_
    refine pg_get (D := D) (ci := 0) (v := .int (nI y3)) (C := RX0) (T := TX0) (N := 5) hx hb hg inG0 hown hK hP i_46.1 hM_55 rfl 3 (by decide) (hg _ wd_199) (fun _ h9 => h9) rfl dX0_append_47 ?_
    have hi_60 : vp_in (nI y3) 120 := (inbN y3 120 (by omega) (by omega))
    refine pg_aldq hx hb hK hP i_47.1 7 hM_54 rfl hi_60 dX0_append_50 ?_
    rw [show f_57 ((nI y3) : Int32).toNatClampNeg = some q_8 from hk_59]
    refine lv_astore_n (lv' := [(2, .ref q_8), (0, .ref oa), (1, .int k1)]) hx hb dX0_append_51 rfl hl (by decide) rfl (fun ls hl => ?_)
    refine lv_aload_n hx hb dX0_append_52 rfl (lv_at hl 1 rfl) ?_
    refine lv_dup hx hb dX0_append_53 rfl ?_
    refine pg_get (D := D) (ci := 0) (v := .int (nI y3)) (C := RX0) (T := TX0) (N := 5) hx hb hg inG0 hown hK hP i_46.1 hM_55 rfl 3 (by decide) (hg _ wd_199) (fun _ h9 => h9) rfl dX0_append_54 ?_
    refine lv_iconst (v := 1) hx hb dX0_append_57 (by decide) ?_
    refine lv_iadd hx hb dX0_append_58 ?_
    refine lv_topi (fun f_61 ef_61 => ?_)
    obtain rfl : f_61 = (nI (y3 + 1)) := ef_61.trans (nI_add y3 1)
    refine pg_put (D := D) (ci := 0) (v := .int (nI (y3 + 1))) (ty := .int) (C := RX0) (T := TX0) (N := 5) hx hb hg inG0 tyX0 tyX0_ok nmX0 hown hK hP hD hS i_46.1 hM_55 rfl 3 (by decide) (hg _ wd_199) (fun _ h9 => h9) rfl (by decide +kernel) rfl rfl (Nat.le_of_ble_eq_true rfl) dX0_append_59 (fun H_62 locs hP hD hS => ?_)
    obtain ⟨M_63, eM_63⟩ : ∃ M1 : Hp, M1 = va_up M_53 oa (.inr (0, [.ref y0, .ref y1, .ref y2, .int (nI (y3 + 1)), .long y4])) := ⟨_, rfl⟩
    have hP : va_P D vwCl ([] ++ va_pl L M_63) H_62 := by rw [eM_63]; exact hP
    have hD : va_D A ([] ++ va_pl L M_63) := by rw [eM_63]; exact hD
    have hW : WOK cy K L M_63 := by rw [eM_63]; exact hW.up_0 i_46 ⟨y0, y1, y2, (y3 + 1), y4, rfl, i_47, i_48, i_49, (by omega)⟩
    have hF : fr K0 L0 [0, 8, 21, 72] M0 M_63 := by rw [eM_63]; exact hF.upX hX0 i_46 (by decide)
    have hM_64 : M_63 oa = .inr (0, [.ref y0, .ref y1, .ref y2, .int (nI (y3 + 1)), .long y4]) := by rw [eM_63]; exact va_up_self _ _ _
    have hM_65 : M_63 y0 = .inl (cy 21, 120, .inr (.inr (.inr (.inr (f_57))))) := by rw [eM_63, va_up_ne _ _ (i_47.neT i_46 (by decide))]; exact hM_54
    have hM_66 : M_63 q_8 = .inr (8, [.ref v52_0, .ref v52_1, .int v52_2, .int v52_3, .long v52_4, .long v52_5]) := by rw [eM_63, va_up_ne _ _ (i_42.neT i_46 (by decide))]; exact hM_56
    have hb_67 : (y3 + 1) ≤ 120 := by omega
    refine lv_aload_n hx hb dX0_append_62 rfl (lv_at hl 0 rfl) ?_
    refine lv_iload_n hx hb dX0_append_63 rfl (lv_at hl 2 rfl) ?_
    have hPc : va_P D vwCl ([] ++ va_pl L M_63) H_62 := hP
    have hDc : va_D A ([] ++ va_pl L M_63) := hD
    have hFc : ∀ q, va_A ([] ++ va_pl L M_63) H_62.size q → A q := pg_free hDc hS hA
    refine va_callv (va_runV (As := [.int k1]) (rest := []) ⟨hx, hb, hml, hown, hg⟩ (s_X8_begin l D cy K L M_63 H_62.size q_8 k1  hW i_42) (cwV 1 hg (gV wd_624 wd_625 wd_626 wd_193 wd_627) rfl rfl rfl (by decide +kernel) ⟨(Nat.le_trans (Nat.le_of_ble_eq_true rfl) hRf), (Nat.le_trans (Nat.le_of_ble_eq_true rfl) hRl)⟩) ⟨PG.blind, pg_recv hK hP i_42.1 hM_66 rfl, fun U hU hW => ⟨rfl, PG.at hPc hK hDc hN hU hW⟩⟩ rfl rfl hl.1 rfl (lv_room (Nat.le_of_ble_eq_true rfl)) dX0_append_64 ⟨(Nat.le_trans (Nat.le_of_ble_eq_true rfl) hRc), (Nat.le_trans (Nat.le_of_ble_eq_true rfl) hRs)⟩) hS (fun q _ h => hFc q h) hFc (fun M_70 t H_68 locs ht hvm hw hB hz1 hk1 hS => ?_)
    obtain ⟨hW, hF2, hp_71⟩ := hw
    obtain ⟨hP1, hD1⟩ := hB
    rw [ht] at hP1
    have hP : va_P D vwCl ([] ++ va_pl L M_70) H_68 := hP1
    have hD : va_D A ([] ++ va_pl L M_70) := hD1.mono hFc
    have hM_72 : M_70 oa = .inr (0, [.ref y0, .ref y1, .ref y2, .int (nI (y3 + 1)), .long y4]) := (hF2.at i_46 (by decide)).trans hM_64
    have hM_73 : M_70 y0 = .inl (cy 21, 120, .inr (.inr (.inr (.inr (f_57))))) := (hF2.at i_47 (by decide)).trans hM_65
    have hF : fr K0 L0 [0, 8, 21, 72] M0 M_70 := hF.trX hX0 hF2 (by decide)
    refine lv_aload_n hx hb dX0_append_67 rfl (lv_at hl 0 rfl) ?_
    rw [hQ]
    exact W.aret (v := .ref q_8) hx hb hr (Or.inl ⟨_, rfl⟩) (Or.inr ⟨_, rfl⟩) (fun t ht hW9 => ⟨⟨(some q_8), (K, L, M_70), rfl, ⟨hX0, hW, hF, hM_72, iskN.some i_42⟩, ⟨by rw [ht]; exact hP, hD⟩⟩, hS.F ht⟩) hS.2.2 dX0_append_68
  · have hb_7 := hq_6 bq_4 rfl
    refine lv_ifnonnull (tgt := 42) hx hb dX0_append_23 (by decide) ?_
    refine lv_aload_n hx hb dX0_append_42 rfl (lv_at hl 0 rfl) ?_
    refine pg_get (D := D) (ci := 0) (v := .ref y0) (C := RX0) (T := TX0) (N := 5) hx hb hg inG0 hown hK hP ia.1 hMy rfl 0 (by decide) (hg _ wd_200) (fun _ h9 => h9) rfl dX0_append_43 ?_
    refine lv_aload_n hx hb dX0_append_46 rfl (lv_at hl 0 rfl) ?_
    refine pg_get (D := D) (ci := 0) (v := .int (nI y3)) (C := RX0) (T := TX0) (N := 5) hx hb hg inG0 hown hK hP ia.1 hMy rfl 3 (by decide) (hg _ wd_199) (fun _ h9 => h9) rfl dX0_append_47 ?_
    have hi_74 : vp_in (nI y3) 120 := (inbN y3 120 (by omega) (by omega))
    refine pg_aldq hx hb hK hP hy0.1 7 hM1 rfl hi_74 dX0_append_50 ?_
    rw [show f1 ((nI y3) : Int32).toNatClampNeg = some bq_4 from (Eq.symm ho_5)]
    refine lv_astore_n (lv' := [(2, .ref bq_4), (0, .ref oa), (1, .int k1)]) hx hb dX0_append_51 rfl hl (by decide) rfl (fun ls hl => ?_)
    refine lv_aload_n hx hb dX0_append_52 rfl (lv_at hl 1 rfl) ?_
    refine lv_dup hx hb dX0_append_53 rfl ?_
    refine pg_get (D := D) (ci := 0) (v := .int (nI y3)) (C := RX0) (T := TX0) (N := 5) hx hb hg inG0 hown hK hP ia.1 hMy rfl 3 (by decide) (hg _ wd_199) (fun _ h9 => h9) rfl dX0_append_54 ?_
    refine lv_iconst (v := 1) hx hb dX0_append_57 (by decide) ?_
    refine lv_iadd hx hb dX0_append_58 ?_
    refine lv_topi (fun f_75 ef_75 => ?_)
    obtain rfl : f_75 = (nI (y3 + 1)) := ef_75.trans (nI_add y3 1)
    refine pg_put (D := D) (ci := 0) (v := .int (nI (y3 + 1))) (ty := .int) (C := RX0) (T := TX0) (N := 5) hx hb hg inG0 tyX0 tyX0_ok nmX0 hown hK hP hD hS ia.1 hMy rfl 3 (by decide) (hg _ wd_199) (fun _ h9 => h9) rfl (by decide +kernel) rfl rfl (Nat.le_of_ble_eq_true rfl) dX0_append_59 (fun H_76 locs hP hD hS => ?_)
    obtain ⟨M_77, eM_77⟩ : ∃ M1 : Hp, M1 = va_up M oa (.inr (0, [.ref y0, .ref y1, .ref y2, .int (nI (y3 + 1)), .long y4])) := ⟨_, rfl⟩
    have hP : va_P D vwCl ([] ++ va_pl L M_77) H_76 := by rw [eM_77]; exact hP
    have hD : va_D A ([] ++ va_pl L M_77) := by rw [eM_77]; exact hD
    have hW : WOK cy K L M_77 := by rw [eM_77]; exact hW.up_0 ia ⟨y0, y1, y2, (y3 + 1), y4, rfl, hy0, hy1, hy2, (by omega)⟩
    have hF : fr K0 L0 [0, 8, 21, 72] M0 M_77 := by rw [eM_77]; exact hF.upX hX0 ia (by decide)
    have hM_78 : M_77 oa = .inr (0, [.ref y0, .ref y1, .ref y2, .int (nI (y3 + 1)), .long y4]) := by rw [eM_77]; exact va_up_self _ _ _
    have hM_79 : M_77 y0 = .inl (cy 21, 120, .inr (.inr (.inr (.inr (f1))))) := by rw [eM_77, va_up_ne _ _ (hy0.neT ia (by decide))]; exact hM1
    have hb_80 : (y3 + 1) ≤ 120 := by omega
    refine lv_aload_n hx hb dX0_append_62 rfl (lv_at hl 0 rfl) ?_
    refine lv_iload_n hx hb dX0_append_63 rfl (lv_at hl 2 rfl) ?_
    obtain ⟨v81_0, v81_1, v81_2, v81_3, v81_4, v81_5, hM81, h81_0, h81_1⟩ := hW.open_8 hb_7
    have hPc : va_P D vwCl ([] ++ va_pl L M_77) H_76 := hP
    have hDc : va_D A ([] ++ va_pl L M_77) := hD
    have hFc : ∀ q, va_A ([] ++ va_pl L M_77) H_76.size q → A q := pg_free hDc hS hA
    refine va_callv (va_runV (As := [.int k1]) (rest := []) ⟨hx, hb, hml, hown, hg⟩ (s_X8_begin l D cy K L M_77 H_76.size bq_4 k1  hW hb_7) (cwV 1 hg (gV wd_624 wd_625 wd_626 wd_193 wd_627) rfl rfl rfl (by decide +kernel) ⟨(Nat.le_trans (Nat.le_of_ble_eq_true rfl) hRf), (Nat.le_trans (Nat.le_of_ble_eq_true rfl) hRl)⟩) ⟨PG.blind, pg_recv hK hP hb_7.1 hM81 rfl, fun U hU hW => ⟨rfl, PG.at hPc hK hDc hN hU hW⟩⟩ rfl rfl hl.1 rfl (lv_room (Nat.le_of_ble_eq_true rfl)) dX0_append_64 ⟨(Nat.le_trans (Nat.le_of_ble_eq_true rfl) hRc), (Nat.le_trans (Nat.le_of_ble_eq_true rfl) hRs)⟩) hS (fun q _ h => hFc q h) hFc (fun M_84 t H_82 locs ht hvm hw hB hz1 hk1 hS => ?_)
    obtain ⟨hW, hF2, hp_85⟩ := hw
    obtain ⟨hP1, hD1⟩ := hB
    rw [ht] at hP1
    have hP : va_P D vwCl ([] ++ va_pl L M_84) H_82 := hP1
    have hD : va_D A ([] ++ va_pl L M_84) := hD1.mono hFc
    have hM_86 : M_84 oa = .inr (0, [.ref y0, .ref y1, .ref y2, .int (nI (y3 + 1)), .long y4]) := (hF2.at ia (by decide)).trans hM_78
    have hM_87 : M_84 y0 = .inl (cy 21, 120, .inr (.inr (.inr (.inr (f1))))) := (hF2.at hy0 (by decide)).trans hM_79
    have hF : fr K0 L0 [0, 8, 21, 72] M0 M_84 := hF.trX hX0 hF2 (by decide)
    refine lv_aload_n hx hb dX0_append_67 rfl (lv_at hl 0 rfl) ?_
    refine W.widen (k := 3) (n := 18) (Nat.le_of_ble_eq_true rfl) (Nat.le_of_ble_eq_true rfl) ?_
    rw [hQ]
    exact W.aret (v := .ref bq_4) hx hb hr (Or.inl ⟨_, rfl⟩) (Or.inr ⟨_, rfl⟩) (fun t ht hW9 => ⟨⟨(some bq_4), (K, L, M_84), rfl, ⟨hX0, hW, hF, hM_86, iskN.some hb_7⟩, ⟨by rw [ht]; exact hP, hD⟩⟩, hS.F ht⟩) hS.2.2 dX0_append_68
set_option maxHeartbeats 4000000 in
set_option maxRecDepth 100000 in
theorem s_partDays (l : Launch) (D : va_G) (cy : Nat → ClassId) (K0 : Kp) (L0 : List Nat) (M0 : Hp) (sz : Nat) (oa : Nat) (k1 : Nat) (k2 : Int32) (y0 : Nat) (y1 : Nat) (y2 : Nat) (y3 : Nat) (y4 : Int64) (hW : WOK cy K0 L0 M0) (ia : isk K0 L0 oa 0 0) (ik1 : isk K0 L0 k1 2 0) (hMy : M0 oa = .inr (0, [.ref y0, .ref y1, .ref y2, .int (nI y3), .long y4])) (hy0 : isk K0 L0 y0 21 120) (hy1 : isk K0 L0 y1 66 100) (hy2 : isk K0 L0 y2 7 0) (hy3 : y3 ≤ 120) : Met l yX0_partDays (wsM yX0_partDays cX0_partDays 5 none) ({ frames := 3, cells := 360, slots := 2160, locals := 67 }) (va_Pc [.ref oa, .ref k1, .int k2] (PG D cy [] L0 M0 sz)) (va_Qv (fun (u : Kp × List Nat × Hp) => ext K0 L0 u.1 u.2.1 ∧ WOK cy u.1 u.2.1 u.2.2 ∧ fr K0 L0 [0, 8, 21, 72] M0 u.2.2 ∧ (True)) (fun u t => PQ D [] u.2.1 u.2.2 (va_A ([] ++ va_pl L0 M0) sz) t) (va_A ([] ++ va_pl L0 M0) sz)) 360 2160 (va_A ([] ++ va_pl L0 M0) sz) := by
  refine Met.ofW (cc := cX0_partDays) (maxL := 5) (ret := none) (by decide) rfl ?_
  intro p e s m args below meth c s₁ B hml hv
  obtain ⟨rfl, hsz, hP, hK, hD0, hN⟩ := hv
  have hx := B.exec
  have hb := B.bytes
  have hr := B.returns
  have hts := atoms_spec (ws := (wsM yX0_partDays cX0_partDays 5 none)) B.pre
  have hg : ∀ w ∈ lw_good, w.before _ s = true := fun w h => hts w (List.mem_cons_of_mem _ h)
  have hown : s.vm.findClass RX0 = some m.cls := findClass_of_methodNamed B.named
  have hlocks := B.notSynchronized
  subst hsz
  have hD := hD0.self (sz := s.heap.size)
  generalize hAe : va_A ([] ++ va_pl L0 M0) s.heap.size = A at hD ⊢
  have hA : ∀ q : Nat, s.heap.size ≤ q → A q := fun q h => by rw [← hAe]; exact Or.inr h
  have hS : va_S A s.heap s.heap [] := va_S.rf
  have hl := lv_entry ([.ref oa, .ref k1, .int k2]) (n := 5) (Nat.le_of_ble_eq_true rfl)
  rw [lg_entry_eq]
  generalize (lg_sl ([.ref oa, .ref k1, .int k2]) ++ List.replicate (5 - (lg_sl ([.ref oa, .ref k1, .int k2])).length) Slot.unset).toArray = ls at hl ⊢
  refine W.nameQ (fun Q hQ => ?_)
  refine W.nameR (fun R hR => ?_)
  have hRf : 3 ≤ R.frames := by rw [hR]; exact Nat.le_of_ble_eq_true rfl
  have hRl : 67 ≤ R.locals := by rw [hR]; exact Nat.le_of_ble_eq_true rfl
  have hRc : 360 ≤ R.cells := by rw [hR]; exact Nat.le_of_ble_eq_true rfl
  have hRs : 2160 ≤ R.slots := by rw [hR]; exact Nat.le_of_ble_eq_true rfl
  obtain ⟨K, L, M, hX0, hF, hW, hP, hD, ia, ik1, hMy, hy0, hy1, hy2⟩ : ∃ (K : Kp) (L : List Nat) (M : Hp), ext K0 L0 K L ∧ fr K0 L0 [0, 8, 21, 72] M0 M ∧ WOK cy K L M ∧ va_P D vwCl ([] ++ va_pl L M) s.heap ∧ va_D A ([] ++ va_pl L M) ∧ isk K L oa 0 0 ∧ isk K L k1 2 0 ∧ M oa = .inr (0, [.ref y0, .ref y1, .ref y2, .int (nI y3), .long y4]) ∧ isk K L y0 21 120 ∧ isk K L y1 66 100 ∧ isk K L y2 7 0 := ⟨K0, L0, M0, ext.rf, fr.rf, hW, hP, hD, ia, ik1, hMy, hy0, hy1, hy2⟩
  have hl : lv_has ls 5 [(0, .ref oa), (1, .ref k1), (2, .int k2)] := hl
  refine lv_null hx hb dX0_partDays_0 ?_
  refine lv_astore_nN (lv' := [(3, .null), (0, .ref oa), (1, .ref k1), (2, .int k2)]) hx hb dX0_partDays_1 rfl hl (by decide) rfl (fun ls hl => ?_)
  refine lv_iconst (v := 0) hx hb dX0_partDays_2 (by decide) ?_
  refine lv_aload_n hx hb dX0_partDays_3 rfl (lv_at hl 2 rfl) ?_
  obtain ⟨v1_0, v1_1, v1_2, v1_3, v1_4, v1_5, v1_6, v1_7, v1_8, v1_9, v1_10, v1_11, v1_12, v1_13, v1_14, v1_15, v1_16, v1_17, v1_18, v1_19, hM1, h1_3, h1_4, h1_5, h1_6, h1_7, h1_8, h1_9, h1_10, h1_11, h1_12, h1_13, h1_16, h1_17, h1_18, h1_19⟩ := hW.open_2 ik1
  refine pg_get (D := D) (ci := 2) (v := .int v1_2) (C := RX2) (T := TX2) (N := 20) hx hb hg inG2 hown hK hP ik1.1 hM1 rfl 2 (by decide) (hg _ wd_628) (fun _ h9 => h9) rfl dX0_partDays_4 ?_
  refine lv_iconst (v := 1) hx hb dX0_partDays_7 (by decide) ?_
  refine lv_iadd hx hb dX0_partDays_8 ?_
  refine lv_topi (fun f_2 ef_2 => ?_)
  refine va_mmax hx hb (by rw [hml]; exact hl.1.symm) hown (hg _ wd_629) (hg _ wd_100) (hg _ wd_12) (hg _ wd_101) (Nat.le_trans (Nat.le_of_ble_eq_true rfl) hRf) (Nat.le_trans (Nat.le_of_ble_eq_true rfl) hRl) (Nat.le_trans (Nat.le_of_ble_eq_true rfl) hRc) (Nat.le_trans (Nat.le_of_ble_eq_true rfl) hRs) dX0_partDays_9 ?_
  refine lv_topi (fun f_3 ef_3 => ?_)
  obtain ⟨j_4, hj_5, rfl⟩ := max0 ef_3
  refine lv_istore (lv' := [(4, .int (nI j_4)), (3, .null), (0, .ref oa), (1, .ref k1), (2, .int k2)]) hx hb dX0_partDays_12 hl (by decide) rfl (fun ls hl => ?_)
  have key_6 : ∀ (fu_8 : Nat) (v3w9 : Option Nat) (v4w9 : Nat) (gw9 : Nat) (K : Kp) (L : List Nat) (M_12 : Hp) (H_13 : Heap) (locs : List Loc) (ls : Array Slot), 1000 - v4w9 < fu_8 → iskN K L v3w9 8 0 → v4w9 < 2147483648 → M_12 oa = .inr (0, [.ref y0, .ref y1, .ref y2, .int (nI gw9), .long y4]) → isk K L oa 0 0 → isk K L k1 2 0 → isk K L y0 21 120 → isk K L y1 66 100 → isk K L y2 7 0 → gw9 ≤ 120 → ext K0 L0 K L → WOK cy K L M_12 → fr K0 L0 [0, 8, 21, 72] M0 M_12 → va_P D vwCl ([] ++ va_pl L M_12) H_13 → va_D A ([] ++ va_pl L M_12) → va_S A s.heap H_13 locs → lv_has ls 5 [(4, .int (nI v4w9)), (3, (va_rf v3w9)), (0, .ref oa), (1, .ref k1), (2, .int k2)] → W p l e R s m ([.ref oa, .ref k1, .int k2] : List Value).toArray below meth c H_13 locs (3 * gw9) (18 * gw9) Q (F0 m 14 ls []) := by
    intro fu_8
    induction fu_8 with
    | zero => intro v3w9 v4w9 gw9 K L M_12 H_13 locs ls h; exact absurd h (Nat.not_lt_zero _)
    | succ fu_8 ih_7 =>
      intro v3w9 v4w9 gw9 K L M_12 H_13 locs ls hfu hq_10 hx_11 hM_14 i_15 i_16 i_17 i_18 i_19 hb_20 hX0 hW hF hP hD hS hl
      rcases v3w9 with _ | b_21
      · have hz := rfl (a := 0)
        refine lv_iload hx hb dX0_partDays_14 (lv_at hl 0 rfl) ?_
        refine lv_iload_n hx hb dX0_partDays_16 rfl (lv_at hl 4 rfl) ?_
        refine lv_icmp_gt (tgt := 91) hx hb dX0_partDays_17 (by decide) (fun c_22 => ?_) (fun c_22 => ?_)
        · have hz := rfl (a := 0)
          refine W.widen (k := 360) (n := 2160) (by omega) (by omega) ?_
          rw [hQ]
          exact W.vret hx hb hr (fun t ht hW9 => ⟨⟨(K, L, M_12), rfl, ⟨hX0, hW, hF, trivial⟩, ⟨by rw [ht]; exact hP, hD⟩⟩, hS.F ht⟩) hS.2.2 dX0_partDays_91
        · have hz := rfl (a := 0)
          refine lv_iload hx hb dX0_partDays_20 (lv_at hl 0 rfl) ?_
          refine lv_sipush (v := 999) hx hb dX0_partDays_22 (by decide) ?_
          refine lv_icmp_gt (tgt := 91) hx hb dX0_partDays_25 (by decide) (fun c_23 => ?_) (fun c_23 => ?_)
          · have hz := rfl (a := 0)
            have n_24 : 999 < v4w9 := (iLT (a := 999) (b := v4w9) (by omega) (by omega)).mp c_23
            refine W.widen (k := 360) (n := 2160) (by omega) (by omega) ?_
            rw [hQ]
            exact W.vret hx hb hr (fun t ht hW9 => ⟨⟨(K, L, M_12), rfl, ⟨hX0, hW, hF, trivial⟩, ⟨by rw [ht]; exact hP, hD⟩⟩, hS.F ht⟩) hS.2.2 dX0_partDays_91
          · have hz := rfl (a := 0)
            have n_25 : ¬ (999 < v4w9) := fun q => c_23 ((iLT (a := 999) (b := v4w9) (by omega) (by omega)).mpr q)
            refine lv_aload_nN hx hb dX0_partDays_28 rfl (lv_at hl 1 rfl) ?_
            refine lv_ifnullN (tgt := 41) hx hb dX0_partDays_29 (by decide) ?_
            refine lv_aload_n hx hb dX0_partDays_41 rfl (lv_at hl 2 rfl) ?_
            refine lv_iload hx hb dX0_partDays_42 (lv_at hl 0 rfl) ?_
            rcases Nat.lt_or_ge gw9 120 with hlt | hge
            · have hz := rfl (a := 0)
              have hPc : va_P D vwCl ([] ++ va_pl L M_12) H_13 := hP
              have hDc : va_D A ([] ++ va_pl L M_12) := hD
              have hFc : ∀ q, va_A ([] ++ va_pl L M_12) H_13.size q → A q := pg_free hDc hS hA
              refine va_callq (va_runV (As := [.int (nI v4w9)]) (rest := []) ⟨hx, hb, hml, hown, hg⟩ (s_append l D cy K L M_12 H_13.size oa (nI v4w9) y0 y1 y2 gw9 y4 hW i_15 (by omega) hM_14 i_17 i_18 i_19 hb_20) (cwV 1 hg (gV wd_630 wd_631 wd_632 wd_204 wd_633) rfl rfl rfl (by decide +kernel) ⟨(Nat.le_trans (Nat.le_of_ble_eq_true rfl) hRf), (Nat.le_trans (Nat.le_of_ble_eq_true rfl) hRl)⟩) ⟨PG.blind, pg_recv hK hP i_15.1 hM_14 rfl, fun U hU hW => ⟨rfl, PG.at hPc hK hDc hN hU hW⟩⟩ rfl rfl hl.1 rfl (lv_room (Nat.le_of_ble_eq_true rfl)) dX0_partDays_44 ⟨by omega, by omega⟩) hS (fun q _ h => hFc q h) hFc (fun r_27 M_28 t H_26 locs ht hvm hw hB hz1 hk1 hS => ?_)
              obtain ⟨K9, L9, M_28m⟩ := M_28
              dsimp only at hw hB
              obtain ⟨hx9, hW, hF2, hM_30, hp_29⟩ := hw
              obtain ⟨hP1, hD1⟩ := hB
              rw [ht] at hP1
              have hP : va_P D vwCl ([] ++ va_pl L9 M_28m) H_26 := hP1
              have hD : va_D A ([] ++ va_pl L9 M_28m) := hD1.mono hFc
              have hb_31 : (gw9 + 1) ≤ 120 := by omega
              have hF : fr K0 L0 [0, 8, 21, 72] M0 M_28m := hF.trX hX0 hF2 (by decide)
              have hX0 := hX0.tr hx9
              have i_32 := i_15.ext hx9
              have i_33 := i_16.ext hx9
              have i_34 := i_17.ext hx9
              have i_35 := i_18.ext hx9
              have i_36 := i_19.ext hx9
              obtain ⟨K, L, hK9, hL9⟩ : ∃ (K : Kp) (L : List Nat), K = K9 ∧ L = L9 := ⟨_, _, rfl, rfl⟩
              subst hK9
              subst hL9
              have hz := rfl (a := 0)
              rcases r_27 with _ | b_37
              · have hz := rfl (a := 0)
                refine lv_astore_nN (lv' := [(3, .null), (4, .int (nI v4w9)), (0, .ref oa), (1, .ref k1), (2, .int k2)]) hx hb dX0_partDays_47 rfl hl (by decide) rfl (fun ls hl => ?_)
                refine lv_aload_nN hx hb dX0_partDays_48 rfl (lv_at hl 0 rfl) ?_
                refine lv_ifnullN (tgt := 85) hx hb dX0_partDays_49 (by decide) ?_
                refine lv_iinc (v := (nI (v4w9 + 1))) (lv' := [(4, .int (nI (v4w9 + 1))), (3, .null), (0, .ref oa), (1, .ref k1), (2, .int k2)]) hx hb dX0_partDays_85 hl (k := 1) rfl (nI_1 v4w9) (by decide) rfl (fun ls hl => ?_)
                refine lv_goto (tgt := 14) hx hb dX0_partDays_88 (by decide) ?_
                refine W.widen (k := 3 * (gw9 + 1)) (n := 18 * (gw9 + 1)) (by omega) (by omega) ?_
                exact ih_7 none (v4w9 + 1) (gw9 + 1) K L M_28m H_26 _ _ (by omega) iskN.none (by omega) hM_30 i_32 i_33 i_34 i_35 i_36 hb_31 hX0 hW hF hP hD hS (lv_sub hl [0, 1, 2, 3, 4] rfl)
              · have hb_38 := hp_29 b_37 rfl
                refine lv_astore_n (lv' := [(3, .ref b_37), (4, .int (nI v4w9)), (0, .ref oa), (1, .ref k1), (2, .int k2)]) hx hb dX0_partDays_47 rfl hl (by decide) rfl (fun ls hl => ?_)
                refine lv_aload_n hx hb dX0_partDays_48 rfl (lv_at hl 0 rfl) ?_
                refine lv_ifnull hx hb dX0_partDays_49 ?_
                refine lv_aload_n hx hb dX0_partDays_52 rfl (lv_at hl 0 rfl) ?_
                refine lv_dup hx hb dX0_partDays_53 rfl ?_
                obtain ⟨v39_0, v39_1, v39_2, v39_3, v39_4, v39_5, hM39, h39_0, h39_1⟩ := hW.open_8 hb_38
                refine pg_get (D := D) (ci := 8) (v := .int v39_3) (C := RX8) (T := TX8) (N := 6) hx hb hg inG8 hown hK hP hb_38.1 hM39 rfl 3 (by decide) (hg _ wd_220) (fun _ h9 => h9) rfl dX0_partDays_54 ?_
                refine lv_iconst (v := 1) hx hb dX0_partDays_57 (by decide) ?_
                refine lv_iadd hx hb dX0_partDays_58 ?_
                refine lv_topi (fun f_40 ef_40 => ?_)
                refine pg_put (D := D) (ci := 8) (v := .int f_40) (ty := .int) (C := RX8) (T := TX8) (N := 6) hx hb hg inG8 tyX8 tyX8_ok nmX8 hown hK hP hD hS hb_38.1 hM39 rfl 3 (by decide) (hg _ wd_220) (fun _ h9 => h9) rfl (by decide +kernel) rfl rfl (Nat.le_of_ble_eq_true rfl) dX0_partDays_59 (fun H_41 locs hP hD hS => ?_)
                obtain ⟨M_42, eM_42⟩ : ∃ M1 : Hp, M1 = va_up M_28m b_37 (.inr (8, [.ref v39_0, .ref v39_1, .int v39_2, .int f_40, .long v39_4, .long v39_5])) := ⟨_, rfl⟩
                have hP : va_P D vwCl ([] ++ va_pl L M_42) H_41 := by rw [eM_42]; exact hP
                have hD : va_D A ([] ++ va_pl L M_42) := by rw [eM_42]; exact hD
                have hW : WOK cy K L M_42 := by rw [eM_42]; exact hW.up_8 hb_38 ⟨v39_0, v39_1, v39_2, f_40, v39_4, v39_5, rfl, h39_0, h39_1⟩
                have hF : fr K0 L0 [0, 8, 21, 72] M0 M_42 := by rw [eM_42]; exact hF.upX hX0 hb_38 (by decide)
                have hM_43 : M_42 b_37 = .inr (8, [.ref v39_0, .ref v39_1, .int v39_2, .int f_40, .long v39_4, .long v39_5]) := by rw [eM_42]; exact va_up_self _ _ _
                have hM_44 : M_42 oa = .inr (0, [.ref y0, .ref y1, .ref y2, .int (nI (gw9 + 1)), .long y4]) := by rw [eM_42, va_up_ne _ _ (i_32.neT hb_38 (by decide))]; exact hM_30
                refine lv_aload_n hx hb dX0_partDays_62 rfl (lv_at hl 0 rfl) ?_
                refine lv_dup hx hb dX0_partDays_63 rfl ?_
                refine pg_get (D := D) (ci := 8) (v := .long v39_4) (C := RX8) (T := TX8) (N := 6) hx hb hg inG8 hown hK hP hb_38.1 hM_43 rfl 4 (by decide) (hg _ wd_255) (fun _ h9 => h9) rfl dX0_partDays_64 ?_
                refine lv_aload_n hx hb dX0_partDays_67 rfl (lv_at hl 3 rfl) ?_
                refine lv_iload hx hb dX0_partDays_68 (lv_at hl 1 rfl) ?_
                obtain ⟨v45_0, v45_1, v45_2, v45_3, v45_4, v45_5, v45_6, v45_7, v45_8, v45_9, v45_10, v45_11, v45_12, v45_13, v45_14, v45_15, v45_16, v45_17, v45_18, v45_19, hM45, h45_3, h45_4, h45_5, h45_6, h45_7, h45_8, h45_9, h45_10, h45_11, h45_12, h45_13, h45_16, h45_17, h45_18, h45_19⟩ := hW.open_2 i_33
                have hPc : va_P D vwCl ([] ++ va_pl L M_42) H_41 := hP
                have hDc : va_D A ([] ++ va_pl L M_42) := hD
                have hFc : ∀ q, va_A ([] ++ va_pl L M_42) H_41.size q → A q := pg_free hDc hS hA
                refine va_calll (va_runV (As := [.int (nI v4w9)]) (rest := [.long v39_4, .ref b_37]) ⟨hx, hb, hml, hown, hg⟩ (s_X2_entriesOn l D cy K L M_42 H_41.size k1 (nI v4w9)  hW i_33) (cwV 1 hg (gV wd_634 wd_508 wd_509 wd_57 wd_510) rfl rfl rfl (by decide +kernel) ⟨(Nat.le_trans (Nat.le_of_ble_eq_true rfl) hRf), (Nat.le_trans (Nat.le_of_ble_eq_true rfl) hRl)⟩) ⟨PG.blind, pg_recv hK hP i_33.1 hM45 rfl, fun U hU hW => ⟨rfl, PG.at hPc hK hDc hN hU hW⟩⟩ rfl rfl hl.1 rfl (lv_room (Nat.le_of_ble_eq_true rfl)) dX0_partDays_70 ⟨by omega, by omega⟩) hS (fun q _ h => hFc q h) hFc (fun r_47 M_48 t H_46 locs ht hvm hw hB hz1 hk1 hS => ?_)
                have hp_49 := hw
                obtain ⟨hP1, hD1⟩ := hB
                rw [ht] at hP1
                have hP : va_P D vwCl ([] ++ va_pl L M_42) H_46 := hP1
                have hD : va_D A ([] ++ va_pl L M_42) := hD1.mono hFc
                refine lv_aload_n hx hb dX0_partDays_73 rfl (lv_at hl 3 rfl) ?_
                refine pg_get (D := D) (ci := 2) (v := .ref v45_13) (C := RX2) (T := TX2) (N := 20) hx hb hg inG2 hown hK hP i_33.1 hM45 rfl 13 (by decide) (hg _ wd_635) (fun _ h9 => h9) rfl dX0_partDays_74 ?_
                refine lv_iload hx hb dX0_partDays_77 (lv_at hl 1 rfl) ?_
                obtain ⟨f50, hM50⟩ := hW.open_67 h45_13
                refine pg_lald hx hb hK hP h45_13.1 1 hM50 rfl (inbN v4w9 1000 (by omega) (by omega)) dX0_partDays_79 ?_
                refine lv_topl (fun f_51 ef_51 => ?_)
                refine lv_ladd hx hb dX0_partDays_80 ?_
                refine lv_topl (fun f_52 ef_52 => ?_)
                refine lv_ladd hx hb dX0_partDays_81 ?_
                refine lv_topl (fun f_53 ef_53 => ?_)
                refine pg_put (D := D) (ci := 8) (v := .long f_53) (ty := .long) (C := RX8) (T := TX8) (N := 6) hx hb hg inG8 tyX8 tyX8_ok nmX8 hown hK hP hD hS hb_38.1 hM_43 rfl 4 (by decide) (hg _ wd_255) (fun _ h9 => h9) rfl (by decide +kernel) rfl rfl (Nat.le_of_ble_eq_true rfl) dX0_partDays_82 (fun H_54 locs hP hD hS => ?_)
                obtain ⟨M_55, eM_55⟩ : ∃ M1 : Hp, M1 = va_up M_42 b_37 (.inr (8, [.ref v39_0, .ref v39_1, .int v39_2, .int f_40, .long f_53, .long v39_5])) := ⟨_, rfl⟩
                have hP : va_P D vwCl ([] ++ va_pl L M_55) H_54 := by rw [eM_55]; exact hP
                have hD : va_D A ([] ++ va_pl L M_55) := by rw [eM_55]; exact hD
                have hW : WOK cy K L M_55 := by rw [eM_55]; exact hW.up_8 hb_38 ⟨v39_0, v39_1, v39_2, f_40, f_53, v39_5, rfl, h39_0, h39_1⟩
                have hF : fr K0 L0 [0, 8, 21, 72] M0 M_55 := by rw [eM_55]; exact hF.upX hX0 hb_38 (by decide)
                have hM_56 : M_55 b_37 = .inr (8, [.ref v39_0, .ref v39_1, .int v39_2, .int f_40, .long f_53, .long v39_5]) := by rw [eM_55]; exact va_up_self _ _ _
                have hM_57 : M_55 oa = .inr (0, [.ref y0, .ref y1, .ref y2, .int (nI (gw9 + 1)), .long y4]) := by rw [eM_55, va_up_ne _ _ (i_32.neT hb_38 (by decide))]; exact hM_44
                have hM_58 : M_55 k1 = .inr (2, [.int v45_0, .int v45_1, .int v45_2, .ref v45_3, .int (nI v45_4), .int (nI v45_5), .ref v45_6, .ref v45_7, .ref v45_8, .int (nI v45_9), .ref v45_10, .int (nI v45_11), .ref v45_12, .ref v45_13, .long v45_14, .int v45_15, .ref v45_16, .ref v45_17, .ref v45_18, .ref v45_19]) := by rw [eM_55, va_up_ne _ _ (i_33.neT hb_38 (by decide))]; exact hM45
                have hM_59 : M_55 v45_13 = .inl (cy 15, 1000, .inr (.inl (f50))) := by rw [eM_55, va_up_ne _ _ (h45_13.neT hb_38 (by decide))]; exact hM50
                refine lv_iinc (v := (nI (v4w9 + 1))) (lv' := [(4, .int (nI (v4w9 + 1))), (3, .ref b_37), (0, .ref oa), (1, .ref k1), (2, .int k2)]) hx hb dX0_partDays_85 hl (k := 1) rfl (nI_1 v4w9) (by decide) rfl (fun ls hl => ?_)
                refine lv_goto (tgt := 14) hx hb dX0_partDays_88 (by decide) ?_
                refine W.widen (k := 3 * (gw9 + 1)) (n := 18 * (gw9 + 1)) (by omega) (by omega) ?_
                exact ih_7 (some b_37) (v4w9 + 1) (gw9 + 1) K L M_55 H_54 _ _ (by omega) (iskN.some hb_38) (by omega) hM_57 i_32 i_33 i_34 i_35 i_36 hb_31 hX0 hW hF hP hD hS (lv_sub hl [0, 1, 2, 3, 4] rfl)
            · have hz := rfl (a := 0)
              have hPc : va_P D vwCl ([] ++ va_pl L M_12) H_13 := hP
              have hDc : va_D A ([] ++ va_pl L M_12) := hD
              have hFc : ∀ q, va_A ([] ++ va_pl L M_12) H_13.size q → A q := pg_free hDc hS hA
              refine va_callq (va_runV (As := [.int (nI v4w9)]) (rest := []) ⟨hx, hb, hml, hown, hg⟩ (s_append_full l D cy K L M_12 H_13.size oa (nI v4w9) y0 y1 y2 gw9 y4 hW i_15 (by omega) hM_14 i_17 i_18 i_19 hb_20) (cwV 1 hg (gV wd_630 wd_631 wd_632 wd_204 wd_633) rfl rfl rfl (by decide +kernel) ⟨(Nat.le_trans (Nat.le_of_ble_eq_true rfl) hRf), (Nat.le_trans (Nat.le_of_ble_eq_true rfl) hRl)⟩) ⟨PG.blind, pg_recv hK hP i_15.1 hM_14 rfl, fun U hU hW => ⟨rfl, PG.at hPc hK hDc hN hU hW⟩⟩ rfl rfl hl.1 rfl (lv_room (Nat.le_of_ble_eq_true rfl)) dX0_partDays_44 ⟨by omega, by omega⟩) hS (fun q _ h => hFc q h) hFc (fun r_61 M_62 t H_60 locs ht hvm hw hB hz1 hk1 hS => ?_)
              have hp_63 := hw
              obtain ⟨hP1, hD1⟩ := hB
              rw [ht] at hP1
              have hP : va_P D vwCl ([] ++ va_pl L M_12) H_60 := hP1
              have hD : va_D A ([] ++ va_pl L M_12) := hD1.mono hFc
              rcases r_61 with _ | b_64
              · have hz := rfl (a := 0)
                refine lv_astore_nN (lv' := [(3, .null), (4, .int (nI v4w9)), (0, .ref oa), (1, .ref k1), (2, .int k2)]) hx hb dX0_partDays_47 rfl hl (by decide) rfl (fun ls hl => ?_)
                refine lv_aload_nN hx hb dX0_partDays_48 rfl (lv_at hl 0 rfl) ?_
                refine lv_ifnullN (tgt := 85) hx hb dX0_partDays_49 (by decide) ?_
                refine lv_iinc (v := (nI (v4w9 + 1))) (lv' := [(4, .int (nI (v4w9 + 1))), (3, .null), (0, .ref oa), (1, .ref k1), (2, .int k2)]) hx hb dX0_partDays_85 hl (k := 1) rfl (nI_1 v4w9) (by decide) rfl (fun ls hl => ?_)
                refine lv_goto (tgt := 14) hx hb dX0_partDays_88 (by decide) ?_
                refine W.widen (k := 3 * gw9) (n := 18 * gw9) (by omega) (by omega) ?_
                exact ih_7 none (v4w9 + 1) gw9 K L M_12 H_60 _ _ (by omega) iskN.none (by omega) hM_14 i_15 i_16 i_17 i_18 i_19 hb_20 hX0 hW hF hP hD hS (lv_sub hl [0, 1, 2, 3, 4] rfl)
              · have hb_65 := hp_63 b_64 rfl
                refine lv_astore_n (lv' := [(3, .ref b_64), (4, .int (nI v4w9)), (0, .ref oa), (1, .ref k1), (2, .int k2)]) hx hb dX0_partDays_47 rfl hl (by decide) rfl (fun ls hl => ?_)
                refine lv_aload_n hx hb dX0_partDays_48 rfl (lv_at hl 0 rfl) ?_
                refine lv_ifnull hx hb dX0_partDays_49 ?_
                refine lv_aload_n hx hb dX0_partDays_52 rfl (lv_at hl 0 rfl) ?_
                refine lv_dup hx hb dX0_partDays_53 rfl ?_
                obtain ⟨v66_0, v66_1, v66_2, v66_3, v66_4, v66_5, hM66, h66_0, h66_1⟩ := hW.open_8 hb_65
                refine pg_get (D := D) (ci := 8) (v := .int v66_3) (C := RX8) (T := TX8) (N := 6) hx hb hg inG8 hown hK hP hb_65.1 hM66 rfl 3 (by decide) (hg _ wd_220) (fun _ h9 => h9) rfl dX0_partDays_54 ?_
                refine lv_iconst (v := 1) hx hb dX0_partDays_57 (by decide) ?_
                refine lv_iadd hx hb dX0_partDays_58 ?_
                refine lv_topi (fun f_67 ef_67 => ?_)
                refine pg_put (D := D) (ci := 8) (v := .int f_67) (ty := .int) (C := RX8) (T := TX8) (N := 6) hx hb hg inG8 tyX8 tyX8_ok nmX8 hown hK hP hD hS hb_65.1 hM66 rfl 3 (by decide) (hg _ wd_220) (fun _ h9 => h9) rfl (by decide +kernel) rfl rfl (Nat.le_of_ble_eq_true rfl) dX0_partDays_59 (fun H_68 locs hP hD hS => ?_)
                obtain ⟨M_69, eM_69⟩ : ∃ M1 : Hp, M1 = va_up M_12 b_64 (.inr (8, [.ref v66_0, .ref v66_1, .int v66_2, .int f_67, .long v66_4, .long v66_5])) := ⟨_, rfl⟩
                have hP : va_P D vwCl ([] ++ va_pl L M_69) H_68 := by rw [eM_69]; exact hP
                have hD : va_D A ([] ++ va_pl L M_69) := by rw [eM_69]; exact hD
                have hW : WOK cy K L M_69 := by rw [eM_69]; exact hW.up_8 hb_65 ⟨v66_0, v66_1, v66_2, f_67, v66_4, v66_5, rfl, h66_0, h66_1⟩
                have hF : fr K0 L0 [0, 8, 21, 72] M0 M_69 := by rw [eM_69]; exact hF.upX hX0 hb_65 (by decide)
                have hM_70 : M_69 b_64 = .inr (8, [.ref v66_0, .ref v66_1, .int v66_2, .int f_67, .long v66_4, .long v66_5]) := by rw [eM_69]; exact va_up_self _ _ _
                have hM_71 : M_69 oa = .inr (0, [.ref y0, .ref y1, .ref y2, .int (nI gw9), .long y4]) := by rw [eM_69, va_up_ne _ _ (i_15.neT hb_65 (by decide))]; exact hM_14
                refine lv_aload_n hx hb dX0_partDays_62 rfl (lv_at hl 0 rfl) ?_
                refine lv_dup hx hb dX0_partDays_63 rfl ?_
                refine pg_get (D := D) (ci := 8) (v := .long v66_4) (C := RX8) (T := TX8) (N := 6) hx hb hg inG8 hown hK hP hb_65.1 hM_70 rfl 4 (by decide) (hg _ wd_255) (fun _ h9 => h9) rfl dX0_partDays_64 ?_
                refine lv_aload_n hx hb dX0_partDays_67 rfl (lv_at hl 3 rfl) ?_
                refine lv_iload hx hb dX0_partDays_68 (lv_at hl 1 rfl) ?_
                obtain ⟨v72_0, v72_1, v72_2, v72_3, v72_4, v72_5, v72_6, v72_7, v72_8, v72_9, v72_10, v72_11, v72_12, v72_13, v72_14, v72_15, v72_16, v72_17, v72_18, v72_19, hM72, h72_3, h72_4, h72_5, h72_6, h72_7, h72_8, h72_9, h72_10, h72_11, h72_12, h72_13, h72_16, h72_17, h72_18, h72_19⟩ := hW.open_2 i_16
                have hPc : va_P D vwCl ([] ++ va_pl L M_69) H_68 := hP
                have hDc : va_D A ([] ++ va_pl L M_69) := hD
                have hFc : ∀ q, va_A ([] ++ va_pl L M_69) H_68.size q → A q := pg_free hDc hS hA
                refine va_calll (va_runV (As := [.int (nI v4w9)]) (rest := [.long v66_4, .ref b_64]) ⟨hx, hb, hml, hown, hg⟩ (s_X2_entriesOn l D cy K L M_69 H_68.size k1 (nI v4w9)  hW i_16) (cwV 1 hg (gV wd_634 wd_508 wd_509 wd_57 wd_510) rfl rfl rfl (by decide +kernel) ⟨(Nat.le_trans (Nat.le_of_ble_eq_true rfl) hRf), (Nat.le_trans (Nat.le_of_ble_eq_true rfl) hRl)⟩) ⟨PG.blind, pg_recv hK hP i_16.1 hM72 rfl, fun U hU hW => ⟨rfl, PG.at hPc hK hDc hN hU hW⟩⟩ rfl rfl hl.1 rfl (lv_room (Nat.le_of_ble_eq_true rfl)) dX0_partDays_70 ⟨by omega, by omega⟩) hS (fun q _ h => hFc q h) hFc (fun r_74 M_75 t H_73 locs ht hvm hw hB hz1 hk1 hS => ?_)
                have hp_76 := hw
                obtain ⟨hP1, hD1⟩ := hB
                rw [ht] at hP1
                have hP : va_P D vwCl ([] ++ va_pl L M_69) H_73 := hP1
                have hD : va_D A ([] ++ va_pl L M_69) := hD1.mono hFc
                refine lv_aload_n hx hb dX0_partDays_73 rfl (lv_at hl 3 rfl) ?_
                refine pg_get (D := D) (ci := 2) (v := .ref v72_13) (C := RX2) (T := TX2) (N := 20) hx hb hg inG2 hown hK hP i_16.1 hM72 rfl 13 (by decide) (hg _ wd_635) (fun _ h9 => h9) rfl dX0_partDays_74 ?_
                refine lv_iload hx hb dX0_partDays_77 (lv_at hl 1 rfl) ?_
                obtain ⟨f77, hM77⟩ := hW.open_67 h72_13
                refine pg_lald hx hb hK hP h72_13.1 1 hM77 rfl (inbN v4w9 1000 (by omega) (by omega)) dX0_partDays_79 ?_
                refine lv_topl (fun f_78 ef_78 => ?_)
                refine lv_ladd hx hb dX0_partDays_80 ?_
                refine lv_topl (fun f_79 ef_79 => ?_)
                refine lv_ladd hx hb dX0_partDays_81 ?_
                refine lv_topl (fun f_80 ef_80 => ?_)
                refine pg_put (D := D) (ci := 8) (v := .long f_80) (ty := .long) (C := RX8) (T := TX8) (N := 6) hx hb hg inG8 tyX8 tyX8_ok nmX8 hown hK hP hD hS hb_65.1 hM_70 rfl 4 (by decide) (hg _ wd_255) (fun _ h9 => h9) rfl (by decide +kernel) rfl rfl (Nat.le_of_ble_eq_true rfl) dX0_partDays_82 (fun H_81 locs hP hD hS => ?_)
                obtain ⟨M_82, eM_82⟩ : ∃ M1 : Hp, M1 = va_up M_69 b_64 (.inr (8, [.ref v66_0, .ref v66_1, .int v66_2, .int f_67, .long f_80, .long v66_5])) := ⟨_, rfl⟩
                have hP : va_P D vwCl ([] ++ va_pl L M_82) H_81 := by rw [eM_82]; exact hP
                have hD : va_D A ([] ++ va_pl L M_82) := by rw [eM_82]; exact hD
                have hW : WOK cy K L M_82 := by rw [eM_82]; exact hW.up_8 hb_65 ⟨v66_0, v66_1, v66_2, f_67, f_80, v66_5, rfl, h66_0, h66_1⟩
                have hF : fr K0 L0 [0, 8, 21, 72] M0 M_82 := by rw [eM_82]; exact hF.upX hX0 hb_65 (by decide)
                have hM_83 : M_82 b_64 = .inr (8, [.ref v66_0, .ref v66_1, .int v66_2, .int f_67, .long f_80, .long v66_5]) := by rw [eM_82]; exact va_up_self _ _ _
                have hM_84 : M_82 oa = .inr (0, [.ref y0, .ref y1, .ref y2, .int (nI gw9), .long y4]) := by rw [eM_82, va_up_ne _ _ (i_15.neT hb_65 (by decide))]; exact hM_71
                have hM_85 : M_82 k1 = .inr (2, [.int v72_0, .int v72_1, .int v72_2, .ref v72_3, .int (nI v72_4), .int (nI v72_5), .ref v72_6, .ref v72_7, .ref v72_8, .int (nI v72_9), .ref v72_10, .int (nI v72_11), .ref v72_12, .ref v72_13, .long v72_14, .int v72_15, .ref v72_16, .ref v72_17, .ref v72_18, .ref v72_19]) := by rw [eM_82, va_up_ne _ _ (i_16.neT hb_65 (by decide))]; exact hM72
                have hM_86 : M_82 v72_13 = .inl (cy 15, 1000, .inr (.inl (f77))) := by rw [eM_82, va_up_ne _ _ (h72_13.neT hb_65 (by decide))]; exact hM77
                refine lv_iinc (v := (nI (v4w9 + 1))) (lv' := [(4, .int (nI (v4w9 + 1))), (3, .ref b_64), (0, .ref oa), (1, .ref k1), (2, .int k2)]) hx hb dX0_partDays_85 hl (k := 1) rfl (nI_1 v4w9) (by decide) rfl (fun ls hl => ?_)
                refine lv_goto (tgt := 14) hx hb dX0_partDays_88 (by decide) ?_
                refine W.widen (k := 3 * gw9) (n := 18 * gw9) (by omega) (by omega) ?_
                exact ih_7 (some b_64) (v4w9 + 1) gw9 K L M_82 H_81 _ _ (by omega) (iskN.some hb_65) (by omega) hM_84 i_15 i_16 i_17 i_18 i_19 hb_20 hX0 hW hF hP hD hS (lv_sub hl [0, 1, 2, 3, 4] rfl)
      · have hb_87 := hq_10 b_21 rfl
        refine lv_iload hx hb dX0_partDays_14 (lv_at hl 0 rfl) ?_
        refine lv_iload_n hx hb dX0_partDays_16 rfl (lv_at hl 4 rfl) ?_
        refine lv_icmp_gt (tgt := 91) hx hb dX0_partDays_17 (by decide) (fun c_88 => ?_) (fun c_88 => ?_)
        · have hz := rfl (a := 0)
          refine W.widen (k := 360) (n := 2160) (by omega) (by omega) ?_
          rw [hQ]
          exact W.vret hx hb hr (fun t ht hW9 => ⟨⟨(K, L, M_12), rfl, ⟨hX0, hW, hF, trivial⟩, ⟨by rw [ht]; exact hP, hD⟩⟩, hS.F ht⟩) hS.2.2 dX0_partDays_91
        · have hz := rfl (a := 0)
          refine lv_iload hx hb dX0_partDays_20 (lv_at hl 0 rfl) ?_
          refine lv_sipush (v := 999) hx hb dX0_partDays_22 (by decide) ?_
          refine lv_icmp_gt (tgt := 91) hx hb dX0_partDays_25 (by decide) (fun c_89 => ?_) (fun c_89 => ?_)
          · have hz := rfl (a := 0)
            have n_90 : 999 < v4w9 := (iLT (a := 999) (b := v4w9) (by omega) (by omega)).mp c_89
            refine W.widen (k := 360) (n := 2160) (by omega) (by omega) ?_
            rw [hQ]
            exact W.vret hx hb hr (fun t ht hW9 => ⟨⟨(K, L, M_12), rfl, ⟨hX0, hW, hF, trivial⟩, ⟨by rw [ht]; exact hP, hD⟩⟩, hS.F ht⟩) hS.2.2 dX0_partDays_91
          · have hz := rfl (a := 0)
            have n_91 : ¬ (999 < v4w9) := fun q => c_89 ((iLT (a := 999) (b := v4w9) (by omega) (by omega)).mpr q)
            refine lv_aload_n hx hb dX0_partDays_28 rfl (lv_at hl 1 rfl) ?_
            refine lv_ifnull hx hb dX0_partDays_29 ?_
            refine lv_aload_n hx hb dX0_partDays_32 rfl (lv_at hl 3 rfl) ?_
            refine lv_iload hx hb dX0_partDays_33 (lv_at hl 0 rfl) ?_
            obtain ⟨v92_0, v92_1, v92_2, v92_3, v92_4, v92_5, v92_6, v92_7, v92_8, v92_9, v92_10, v92_11, v92_12, v92_13, v92_14, v92_15, v92_16, v92_17, v92_18, v92_19, hM92, h92_3, h92_4, h92_5, h92_6, h92_7, h92_8, h92_9, h92_10, h92_11, h92_12, h92_13, h92_16, h92_17, h92_18, h92_19⟩ := hW.open_2 i_16
            have hPc : va_P D vwCl ([] ++ va_pl L M_12) H_13 := hP
            have hDc : va_D A ([] ++ va_pl L M_12) := hD
            have hFc : ∀ q, va_A ([] ++ va_pl L M_12) H_13.size q → A q := pg_free hDc hS hA
            refine va_calli (va_runV (As := [.int (nI v4w9)]) (rest := []) ⟨hx, hb, hml, hown, hg⟩ (s_X2_isParted l D cy K L M_12 H_13.size k1 (nI v4w9)  hW i_16) (cwV 1 hg (gV wd_636 wd_637 wd_638 wd_57 wd_639) rfl rfl rfl (by decide +kernel) ⟨(Nat.le_trans (Nat.le_of_ble_eq_true rfl) hRf), (Nat.le_trans (Nat.le_of_ble_eq_true rfl) hRl)⟩) ⟨PG.blind, pg_recv hK hP i_16.1 hM92 rfl, fun U hU hW => ⟨rfl, PG.at hPc hK hDc hN hU hW⟩⟩ rfl rfl hl.1 rfl (lv_room (Nat.le_of_ble_eq_true rfl)) dX0_partDays_35 ⟨by omega, by omega⟩) hS (fun q _ h => hFc q h) hFc (fun r_94 M_95 t H_93 locs ht hvm hw hB hz1 hk1 hS => ?_)
            have hp_96 := hw
            obtain ⟨hP1, hD1⟩ := hB
            rw [ht] at hP1
            have hP : va_P D vwCl ([] ++ va_pl L M_12) H_93 := hP1
            have hD : va_D A ([] ++ va_pl L M_12) := hD1.mono hFc
            rcases hp_96 with rfl | rfl
            · have hz := rfl (a := 0)
              refine lv_if_eq (tgt := 48) hx hb dX0_partDays_38 (by decide) (fun c_97 => absurd c_97 (by decide)) (fun _ => ?_)
              refine lv_aload_n hx hb dX0_partDays_41 rfl (lv_at hl 2 rfl) ?_
              refine lv_iload hx hb dX0_partDays_42 (lv_at hl 0 rfl) ?_
              rcases Nat.lt_or_ge gw9 120 with hlt | hge
              · have hz := rfl (a := 0)
                have hPc : va_P D vwCl ([] ++ va_pl L M_12) H_93 := hP
                have hDc : va_D A ([] ++ va_pl L M_12) := hD
                have hFc : ∀ q, va_A ([] ++ va_pl L M_12) H_93.size q → A q := pg_free hDc hS hA
                refine va_callq (va_runV (As := [.int (nI v4w9)]) (rest := []) ⟨hx, hb, hml, hown, hg⟩ (s_append l D cy K L M_12 H_93.size oa (nI v4w9) y0 y1 y2 gw9 y4 hW i_15 (by omega) hM_14 i_17 i_18 i_19 hb_20) (cwV 1 hg (gV wd_630 wd_631 wd_632 wd_204 wd_633) rfl rfl rfl (by decide +kernel) ⟨(Nat.le_trans (Nat.le_of_ble_eq_true rfl) hRf), (Nat.le_trans (Nat.le_of_ble_eq_true rfl) hRl)⟩) ⟨PG.blind, pg_recv hK hP i_15.1 hM_14 rfl, fun U hU hW => ⟨rfl, PG.at hPc hK hDc hN hU hW⟩⟩ rfl rfl hl.1 rfl (lv_room (Nat.le_of_ble_eq_true rfl)) dX0_partDays_44 ⟨by omega, by omega⟩) hS (fun q _ h => hFc q h) hFc (fun r_99 M_100 t H_98 locs ht hvm hw hB hz1 hk1 hS => ?_)
                obtain ⟨K9, L9, M_100m⟩ := M_100
                dsimp only at hw hB
                obtain ⟨hx9, hW, hF2, hM_102, hp_101⟩ := hw
                obtain ⟨hP1, hD1⟩ := hB
                rw [ht] at hP1
                have hP : va_P D vwCl ([] ++ va_pl L9 M_100m) H_98 := hP1
                have hD : va_D A ([] ++ va_pl L9 M_100m) := hD1.mono hFc
                have hM_103 : M_100m k1 = .inr (2, [.int v92_0, .int v92_1, .int v92_2, .ref v92_3, .int (nI v92_4), .int (nI v92_5), .ref v92_6, .ref v92_7, .ref v92_8, .int (nI v92_9), .ref v92_10, .int (nI v92_11), .ref v92_12, .ref v92_13, .long v92_14, .int v92_15, .ref v92_16, .ref v92_17, .ref v92_18, .ref v92_19]) := (hF2.at i_16 (by decide)).trans hM92
                have hb_104 : (gw9 + 1) ≤ 120 := by omega
                have hF : fr K0 L0 [0, 8, 21, 72] M0 M_100m := hF.trX hX0 hF2 (by decide)
                have hX0 := hX0.tr hx9
                have i_105 := i_15.ext hx9
                have i_106 := i_16.ext hx9
                have i_107 := i_17.ext hx9
                have i_108 := i_18.ext hx9
                have i_109 := i_19.ext hx9
                have i_110 := hb_87.ext hx9
                have i_111 := h92_3.ext hx9
                have i_112 := h92_6.ext hx9
                have i_113 := h92_7.ext hx9
                have i_114 := h92_8.ext hx9
                have i_115 := h92_10.ext hx9
                have i_116 := h92_12.ext hx9
                have i_117 := h92_13.ext hx9
                have i_118 := h92_16.ext hx9
                have i_119 := h92_17.ext hx9
                have i_120 := h92_18.ext hx9
                have i_121 := h92_19.ext hx9
                obtain ⟨K, L, hK9, hL9⟩ : ∃ (K : Kp) (L : List Nat), K = K9 ∧ L = L9 := ⟨_, _, rfl, rfl⟩
                subst hK9
                subst hL9
                have hz := rfl (a := 0)
                rcases r_99 with _ | b_122
                · have hz := rfl (a := 0)
                  refine lv_astore_nN (lv' := [(3, .null), (4, .int (nI v4w9)), (0, .ref oa), (1, .ref k1), (2, .int k2)]) hx hb dX0_partDays_47 rfl hl (by decide) rfl (fun ls hl => ?_)
                  refine lv_aload_nN hx hb dX0_partDays_48 rfl (lv_at hl 0 rfl) ?_
                  refine lv_ifnullN (tgt := 85) hx hb dX0_partDays_49 (by decide) ?_
                  refine lv_iinc (v := (nI (v4w9 + 1))) (lv' := [(4, .int (nI (v4w9 + 1))), (3, .null), (0, .ref oa), (1, .ref k1), (2, .int k2)]) hx hb dX0_partDays_85 hl (k := 1) rfl (nI_1 v4w9) (by decide) rfl (fun ls hl => ?_)
                  refine lv_goto (tgt := 14) hx hb dX0_partDays_88 (by decide) ?_
                  refine W.widen (k := 3 * (gw9 + 1)) (n := 18 * (gw9 + 1)) (by omega) (by omega) ?_
                  exact ih_7 none (v4w9 + 1) (gw9 + 1) K L M_100m H_98 _ _ (by omega) iskN.none (by omega) hM_102 i_105 i_106 i_107 i_108 i_109 hb_104 hX0 hW hF hP hD hS (lv_sub hl [0, 1, 2, 3, 4] rfl)
                · have hb_123 := hp_101 b_122 rfl
                  refine lv_astore_n (lv' := [(3, .ref b_122), (4, .int (nI v4w9)), (0, .ref oa), (1, .ref k1), (2, .int k2)]) hx hb dX0_partDays_47 rfl hl (by decide) rfl (fun ls hl => ?_)
                  refine lv_aload_n hx hb dX0_partDays_48 rfl (lv_at hl 0 rfl) ?_
                  refine lv_ifnull hx hb dX0_partDays_49 ?_
                  refine lv_aload_n hx hb dX0_partDays_52 rfl (lv_at hl 0 rfl) ?_
                  refine lv_dup hx hb dX0_partDays_53 rfl ?_
                  obtain ⟨v124_0, v124_1, v124_2, v124_3, v124_4, v124_5, hM124, h124_0, h124_1⟩ := hW.open_8 hb_123
                  refine pg_get (D := D) (ci := 8) (v := .int v124_3) (C := RX8) (T := TX8) (N := 6) hx hb hg inG8 hown hK hP hb_123.1 hM124 rfl 3 (by decide) (hg _ wd_220) (fun _ h9 => h9) rfl dX0_partDays_54 ?_
                  refine lv_iconst (v := 1) hx hb dX0_partDays_57 (by decide) ?_
                  refine lv_iadd hx hb dX0_partDays_58 ?_
                  refine lv_topi (fun f_125 ef_125 => ?_)
                  refine pg_put (D := D) (ci := 8) (v := .int f_125) (ty := .int) (C := RX8) (T := TX8) (N := 6) hx hb hg inG8 tyX8 tyX8_ok nmX8 hown hK hP hD hS hb_123.1 hM124 rfl 3 (by decide) (hg _ wd_220) (fun _ h9 => h9) rfl (by decide +kernel) rfl rfl (Nat.le_of_ble_eq_true rfl) dX0_partDays_59 (fun H_126 locs hP hD hS => ?_)
                  obtain ⟨M_127, eM_127⟩ : ∃ M1 : Hp, M1 = va_up M_100m b_122 (.inr (8, [.ref v124_0, .ref v124_1, .int v124_2, .int f_125, .long v124_4, .long v124_5])) := ⟨_, rfl⟩
                  have hP : va_P D vwCl ([] ++ va_pl L M_127) H_126 := by rw [eM_127]; exact hP
                  have hD : va_D A ([] ++ va_pl L M_127) := by rw [eM_127]; exact hD
                  have hW : WOK cy K L M_127 := by rw [eM_127]; exact hW.up_8 hb_123 ⟨v124_0, v124_1, v124_2, f_125, v124_4, v124_5, rfl, h124_0, h124_1⟩
                  have hF : fr K0 L0 [0, 8, 21, 72] M0 M_127 := by rw [eM_127]; exact hF.upX hX0 hb_123 (by decide)
                  have hM_128 : M_127 b_122 = .inr (8, [.ref v124_0, .ref v124_1, .int v124_2, .int f_125, .long v124_4, .long v124_5]) := by rw [eM_127]; exact va_up_self _ _ _
                  have hM_129 : M_127 k1 = .inr (2, [.int v92_0, .int v92_1, .int v92_2, .ref v92_3, .int (nI v92_4), .int (nI v92_5), .ref v92_6, .ref v92_7, .ref v92_8, .int (nI v92_9), .ref v92_10, .int (nI v92_11), .ref v92_12, .ref v92_13, .long v92_14, .int v92_15, .ref v92_16, .ref v92_17, .ref v92_18, .ref v92_19]) := by rw [eM_127, va_up_ne _ _ (i_106.neT hb_123 (by decide))]; exact hM_103
                  have hM_130 : M_127 oa = .inr (0, [.ref y0, .ref y1, .ref y2, .int (nI (gw9 + 1)), .long y4]) := by rw [eM_127, va_up_ne _ _ (i_105.neT hb_123 (by decide))]; exact hM_102
                  refine lv_aload_n hx hb dX0_partDays_62 rfl (lv_at hl 0 rfl) ?_
                  refine lv_dup hx hb dX0_partDays_63 rfl ?_
                  refine pg_get (D := D) (ci := 8) (v := .long v124_4) (C := RX8) (T := TX8) (N := 6) hx hb hg inG8 hown hK hP hb_123.1 hM_128 rfl 4 (by decide) (hg _ wd_255) (fun _ h9 => h9) rfl dX0_partDays_64 ?_
                  refine lv_aload_n hx hb dX0_partDays_67 rfl (lv_at hl 3 rfl) ?_
                  refine lv_iload hx hb dX0_partDays_68 (lv_at hl 1 rfl) ?_
                  have hPc : va_P D vwCl ([] ++ va_pl L M_127) H_126 := hP
                  have hDc : va_D A ([] ++ va_pl L M_127) := hD
                  have hFc : ∀ q, va_A ([] ++ va_pl L M_127) H_126.size q → A q := pg_free hDc hS hA
                  refine va_calll (va_runV (As := [.int (nI v4w9)]) (rest := [.long v124_4, .ref b_122]) ⟨hx, hb, hml, hown, hg⟩ (s_X2_entriesOn l D cy K L M_127 H_126.size k1 (nI v4w9)  hW i_106) (cwV 1 hg (gV wd_634 wd_508 wd_509 wd_57 wd_510) rfl rfl rfl (by decide +kernel) ⟨(Nat.le_trans (Nat.le_of_ble_eq_true rfl) hRf), (Nat.le_trans (Nat.le_of_ble_eq_true rfl) hRl)⟩) ⟨PG.blind, pg_recv hK hP i_106.1 hM_129 rfl, fun U hU hW => ⟨rfl, PG.at hPc hK hDc hN hU hW⟩⟩ rfl rfl hl.1 rfl (lv_room (Nat.le_of_ble_eq_true rfl)) dX0_partDays_70 ⟨by omega, by omega⟩) hS (fun q _ h => hFc q h) hFc (fun r_132 M_133 t H_131 locs ht hvm hw hB hz1 hk1 hS => ?_)
                  have hp_134 := hw
                  obtain ⟨hP1, hD1⟩ := hB
                  rw [ht] at hP1
                  have hP : va_P D vwCl ([] ++ va_pl L M_127) H_131 := hP1
                  have hD : va_D A ([] ++ va_pl L M_127) := hD1.mono hFc
                  refine lv_aload_n hx hb dX0_partDays_73 rfl (lv_at hl 3 rfl) ?_
                  refine pg_get (D := D) (ci := 2) (v := .ref v92_13) (C := RX2) (T := TX2) (N := 20) hx hb hg inG2 hown hK hP i_106.1 hM_129 rfl 13 (by decide) (hg _ wd_635) (fun _ h9 => h9) rfl dX0_partDays_74 ?_
                  refine lv_iload hx hb dX0_partDays_77 (lv_at hl 1 rfl) ?_
                  obtain ⟨f135, hM135⟩ := hW.open_67 i_117
                  refine pg_lald hx hb hK hP i_117.1 1 hM135 rfl (inbN v4w9 1000 (by omega) (by omega)) dX0_partDays_79 ?_
                  refine lv_topl (fun f_136 ef_136 => ?_)
                  refine lv_ladd hx hb dX0_partDays_80 ?_
                  refine lv_topl (fun f_137 ef_137 => ?_)
                  refine lv_ladd hx hb dX0_partDays_81 ?_
                  refine lv_topl (fun f_138 ef_138 => ?_)
                  refine pg_put (D := D) (ci := 8) (v := .long f_138) (ty := .long) (C := RX8) (T := TX8) (N := 6) hx hb hg inG8 tyX8 tyX8_ok nmX8 hown hK hP hD hS hb_123.1 hM_128 rfl 4 (by decide) (hg _ wd_255) (fun _ h9 => h9) rfl (by decide +kernel) rfl rfl (Nat.le_of_ble_eq_true rfl) dX0_partDays_82 (fun H_139 locs hP hD hS => ?_)
                  obtain ⟨M_140, eM_140⟩ : ∃ M1 : Hp, M1 = va_up M_127 b_122 (.inr (8, [.ref v124_0, .ref v124_1, .int v124_2, .int f_125, .long f_138, .long v124_5])) := ⟨_, rfl⟩
                  have hP : va_P D vwCl ([] ++ va_pl L M_140) H_139 := by rw [eM_140]; exact hP
                  have hD : va_D A ([] ++ va_pl L M_140) := by rw [eM_140]; exact hD
                  have hW : WOK cy K L M_140 := by rw [eM_140]; exact hW.up_8 hb_123 ⟨v124_0, v124_1, v124_2, f_125, f_138, v124_5, rfl, h124_0, h124_1⟩
                  have hF : fr K0 L0 [0, 8, 21, 72] M0 M_140 := by rw [eM_140]; exact hF.upX hX0 hb_123 (by decide)
                  have hM_141 : M_140 b_122 = .inr (8, [.ref v124_0, .ref v124_1, .int v124_2, .int f_125, .long f_138, .long v124_5]) := by rw [eM_140]; exact va_up_self _ _ _
                  have hM_142 : M_140 k1 = .inr (2, [.int v92_0, .int v92_1, .int v92_2, .ref v92_3, .int (nI v92_4), .int (nI v92_5), .ref v92_6, .ref v92_7, .ref v92_8, .int (nI v92_9), .ref v92_10, .int (nI v92_11), .ref v92_12, .ref v92_13, .long v92_14, .int v92_15, .ref v92_16, .ref v92_17, .ref v92_18, .ref v92_19]) := by rw [eM_140, va_up_ne _ _ (i_106.neT hb_123 (by decide))]; exact hM_129
                  have hM_143 : M_140 oa = .inr (0, [.ref y0, .ref y1, .ref y2, .int (nI (gw9 + 1)), .long y4]) := by rw [eM_140, va_up_ne _ _ (i_105.neT hb_123 (by decide))]; exact hM_130
                  have hM_144 : M_140 v92_13 = .inl (cy 15, 1000, .inr (.inl (f135))) := by rw [eM_140, va_up_ne _ _ (i_117.neT hb_123 (by decide))]; exact hM135
                  refine lv_iinc (v := (nI (v4w9 + 1))) (lv' := [(4, .int (nI (v4w9 + 1))), (3, .ref b_122), (0, .ref oa), (1, .ref k1), (2, .int k2)]) hx hb dX0_partDays_85 hl (k := 1) rfl (nI_1 v4w9) (by decide) rfl (fun ls hl => ?_)
                  refine lv_goto (tgt := 14) hx hb dX0_partDays_88 (by decide) ?_
                  refine W.widen (k := 3 * (gw9 + 1)) (n := 18 * (gw9 + 1)) (by omega) (by omega) ?_
                  exact ih_7 (some b_122) (v4w9 + 1) (gw9 + 1) K L M_140 H_139 _ _ (by omega) (iskN.some hb_123) (by omega) hM_143 i_105 i_106 i_107 i_108 i_109 hb_104 hX0 hW hF hP hD hS (lv_sub hl [0, 1, 2, 3, 4] rfl)
              · have hz := rfl (a := 0)
                have hPc : va_P D vwCl ([] ++ va_pl L M_12) H_93 := hP
                have hDc : va_D A ([] ++ va_pl L M_12) := hD
                have hFc : ∀ q, va_A ([] ++ va_pl L M_12) H_93.size q → A q := pg_free hDc hS hA
                refine va_callq (va_runV (As := [.int (nI v4w9)]) (rest := []) ⟨hx, hb, hml, hown, hg⟩ (s_append_full l D cy K L M_12 H_93.size oa (nI v4w9) y0 y1 y2 gw9 y4 hW i_15 (by omega) hM_14 i_17 i_18 i_19 hb_20) (cwV 1 hg (gV wd_630 wd_631 wd_632 wd_204 wd_633) rfl rfl rfl (by decide +kernel) ⟨(Nat.le_trans (Nat.le_of_ble_eq_true rfl) hRf), (Nat.le_trans (Nat.le_of_ble_eq_true rfl) hRl)⟩) ⟨PG.blind, pg_recv hK hP i_15.1 hM_14 rfl, fun U hU hW => ⟨rfl, PG.at hPc hK hDc hN hU hW⟩⟩ rfl rfl hl.1 rfl (lv_room (Nat.le_of_ble_eq_true rfl)) dX0_partDays_44 ⟨by omega, by omega⟩) hS (fun q _ h => hFc q h) hFc (fun r_146 M_147 t H_145 locs ht hvm hw hB hz1 hk1 hS => ?_)
                have hp_148 := hw
                obtain ⟨hP1, hD1⟩ := hB
                rw [ht] at hP1
                have hP : va_P D vwCl ([] ++ va_pl L M_12) H_145 := hP1
                have hD : va_D A ([] ++ va_pl L M_12) := hD1.mono hFc
                rcases r_146 with _ | b_149
                · have hz := rfl (a := 0)
                  refine lv_astore_nN (lv' := [(3, .null), (4, .int (nI v4w9)), (0, .ref oa), (1, .ref k1), (2, .int k2)]) hx hb dX0_partDays_47 rfl hl (by decide) rfl (fun ls hl => ?_)
                  refine lv_aload_nN hx hb dX0_partDays_48 rfl (lv_at hl 0 rfl) ?_
                  refine lv_ifnullN (tgt := 85) hx hb dX0_partDays_49 (by decide) ?_
                  refine lv_iinc (v := (nI (v4w9 + 1))) (lv' := [(4, .int (nI (v4w9 + 1))), (3, .null), (0, .ref oa), (1, .ref k1), (2, .int k2)]) hx hb dX0_partDays_85 hl (k := 1) rfl (nI_1 v4w9) (by decide) rfl (fun ls hl => ?_)
                  refine lv_goto (tgt := 14) hx hb dX0_partDays_88 (by decide) ?_
                  refine W.widen (k := 3 * gw9) (n := 18 * gw9) (by omega) (by omega) ?_
                  exact ih_7 none (v4w9 + 1) gw9 K L M_12 H_145 _ _ (by omega) iskN.none (by omega) hM_14 i_15 i_16 i_17 i_18 i_19 hb_20 hX0 hW hF hP hD hS (lv_sub hl [0, 1, 2, 3, 4] rfl)
                · have hb_150 := hp_148 b_149 rfl
                  refine lv_astore_n (lv' := [(3, .ref b_149), (4, .int (nI v4w9)), (0, .ref oa), (1, .ref k1), (2, .int k2)]) hx hb dX0_partDays_47 rfl hl (by decide) rfl (fun ls hl => ?_)
                  refine lv_aload_n hx hb dX0_partDays_48 rfl (lv_at hl 0 rfl) ?_
                  refine lv_ifnull hx hb dX0_partDays_49 ?_
                  refine lv_aload_n hx hb dX0_partDays_52 rfl (lv_at hl 0 rfl) ?_
                  refine lv_dup hx hb dX0_partDays_53 rfl ?_
                  obtain ⟨v151_0, v151_1, v151_2, v151_3, v151_4, v151_5, hM151, h151_0, h151_1⟩ := hW.open_8 hb_150
                  refine pg_get (D := D) (ci := 8) (v := .int v151_3) (C := RX8) (T := TX8) (N := 6) hx hb hg inG8 hown hK hP hb_150.1 hM151 rfl 3 (by decide) (hg _ wd_220) (fun _ h9 => h9) rfl dX0_partDays_54 ?_
                  refine lv_iconst (v := 1) hx hb dX0_partDays_57 (by decide) ?_
                  refine lv_iadd hx hb dX0_partDays_58 ?_
                  refine lv_topi (fun f_152 ef_152 => ?_)
                  refine pg_put (D := D) (ci := 8) (v := .int f_152) (ty := .int) (C := RX8) (T := TX8) (N := 6) hx hb hg inG8 tyX8 tyX8_ok nmX8 hown hK hP hD hS hb_150.1 hM151 rfl 3 (by decide) (hg _ wd_220) (fun _ h9 => h9) rfl (by decide +kernel) rfl rfl (Nat.le_of_ble_eq_true rfl) dX0_partDays_59 (fun H_153 locs hP hD hS => ?_)
                  obtain ⟨M_154, eM_154⟩ : ∃ M1 : Hp, M1 = va_up M_12 b_149 (.inr (8, [.ref v151_0, .ref v151_1, .int v151_2, .int f_152, .long v151_4, .long v151_5])) := ⟨_, rfl⟩
                  have hP : va_P D vwCl ([] ++ va_pl L M_154) H_153 := by rw [eM_154]; exact hP
                  have hD : va_D A ([] ++ va_pl L M_154) := by rw [eM_154]; exact hD
                  have hW : WOK cy K L M_154 := by rw [eM_154]; exact hW.up_8 hb_150 ⟨v151_0, v151_1, v151_2, f_152, v151_4, v151_5, rfl, h151_0, h151_1⟩
                  have hF : fr K0 L0 [0, 8, 21, 72] M0 M_154 := by rw [eM_154]; exact hF.upX hX0 hb_150 (by decide)
                  have hM_155 : M_154 b_149 = .inr (8, [.ref v151_0, .ref v151_1, .int v151_2, .int f_152, .long v151_4, .long v151_5]) := by rw [eM_154]; exact va_up_self _ _ _
                  have hM_156 : M_154 oa = .inr (0, [.ref y0, .ref y1, .ref y2, .int (nI gw9), .long y4]) := by rw [eM_154, va_up_ne _ _ (i_15.neT hb_150 (by decide))]; exact hM_14
                  have hM_157 : M_154 k1 = .inr (2, [.int v92_0, .int v92_1, .int v92_2, .ref v92_3, .int (nI v92_4), .int (nI v92_5), .ref v92_6, .ref v92_7, .ref v92_8, .int (nI v92_9), .ref v92_10, .int (nI v92_11), .ref v92_12, .ref v92_13, .long v92_14, .int v92_15, .ref v92_16, .ref v92_17, .ref v92_18, .ref v92_19]) := by rw [eM_154, va_up_ne _ _ (i_16.neT hb_150 (by decide))]; exact hM92
                  refine lv_aload_n hx hb dX0_partDays_62 rfl (lv_at hl 0 rfl) ?_
                  refine lv_dup hx hb dX0_partDays_63 rfl ?_
                  refine pg_get (D := D) (ci := 8) (v := .long v151_4) (C := RX8) (T := TX8) (N := 6) hx hb hg inG8 hown hK hP hb_150.1 hM_155 rfl 4 (by decide) (hg _ wd_255) (fun _ h9 => h9) rfl dX0_partDays_64 ?_
                  refine lv_aload_n hx hb dX0_partDays_67 rfl (lv_at hl 3 rfl) ?_
                  refine lv_iload hx hb dX0_partDays_68 (lv_at hl 1 rfl) ?_
                  have hPc : va_P D vwCl ([] ++ va_pl L M_154) H_153 := hP
                  have hDc : va_D A ([] ++ va_pl L M_154) := hD
                  have hFc : ∀ q, va_A ([] ++ va_pl L M_154) H_153.size q → A q := pg_free hDc hS hA
                  refine va_calll (va_runV (As := [.int (nI v4w9)]) (rest := [.long v151_4, .ref b_149]) ⟨hx, hb, hml, hown, hg⟩ (s_X2_entriesOn l D cy K L M_154 H_153.size k1 (nI v4w9)  hW i_16) (cwV 1 hg (gV wd_634 wd_508 wd_509 wd_57 wd_510) rfl rfl rfl (by decide +kernel) ⟨(Nat.le_trans (Nat.le_of_ble_eq_true rfl) hRf), (Nat.le_trans (Nat.le_of_ble_eq_true rfl) hRl)⟩) ⟨PG.blind, pg_recv hK hP i_16.1 hM_157 rfl, fun U hU hW => ⟨rfl, PG.at hPc hK hDc hN hU hW⟩⟩ rfl rfl hl.1 rfl (lv_room (Nat.le_of_ble_eq_true rfl)) dX0_partDays_70 ⟨by omega, by omega⟩) hS (fun q _ h => hFc q h) hFc (fun r_159 M_160 t H_158 locs ht hvm hw hB hz1 hk1 hS => ?_)
                  have hp_161 := hw
                  obtain ⟨hP1, hD1⟩ := hB
                  rw [ht] at hP1
                  have hP : va_P D vwCl ([] ++ va_pl L M_154) H_158 := hP1
                  have hD : va_D A ([] ++ va_pl L M_154) := hD1.mono hFc
                  refine lv_aload_n hx hb dX0_partDays_73 rfl (lv_at hl 3 rfl) ?_
                  refine pg_get (D := D) (ci := 2) (v := .ref v92_13) (C := RX2) (T := TX2) (N := 20) hx hb hg inG2 hown hK hP i_16.1 hM_157 rfl 13 (by decide) (hg _ wd_635) (fun _ h9 => h9) rfl dX0_partDays_74 ?_
                  refine lv_iload hx hb dX0_partDays_77 (lv_at hl 1 rfl) ?_
                  obtain ⟨f162, hM162⟩ := hW.open_67 h92_13
                  refine pg_lald hx hb hK hP h92_13.1 1 hM162 rfl (inbN v4w9 1000 (by omega) (by omega)) dX0_partDays_79 ?_
                  refine lv_topl (fun f_163 ef_163 => ?_)
                  refine lv_ladd hx hb dX0_partDays_80 ?_
                  refine lv_topl (fun f_164 ef_164 => ?_)
                  refine lv_ladd hx hb dX0_partDays_81 ?_
                  refine lv_topl (fun f_165 ef_165 => ?_)
                  refine pg_put (D := D) (ci := 8) (v := .long f_165) (ty := .long) (C := RX8) (T := TX8) (N := 6) hx hb hg inG8 tyX8 tyX8_ok nmX8 hown hK hP hD hS hb_150.1 hM_155 rfl 4 (by decide) (hg _ wd_255) (fun _ h9 => h9) rfl (by decide +kernel) rfl rfl (Nat.le_of_ble_eq_true rfl) dX0_partDays_82 (fun H_166 locs hP hD hS => ?_)
                  obtain ⟨M_167, eM_167⟩ : ∃ M1 : Hp, M1 = va_up M_154 b_149 (.inr (8, [.ref v151_0, .ref v151_1, .int v151_2, .int f_152, .long f_165, .long v151_5])) := ⟨_, rfl⟩
                  have hP : va_P D vwCl ([] ++ va_pl L M_167) H_166 := by rw [eM_167]; exact hP
                  have hD : va_D A ([] ++ va_pl L M_167) := by rw [eM_167]; exact hD
                  have hW : WOK cy K L M_167 := by rw [eM_167]; exact hW.up_8 hb_150 ⟨v151_0, v151_1, v151_2, f_152, f_165, v151_5, rfl, h151_0, h151_1⟩
                  have hF : fr K0 L0 [0, 8, 21, 72] M0 M_167 := by rw [eM_167]; exact hF.upX hX0 hb_150 (by decide)
                  have hM_168 : M_167 b_149 = .inr (8, [.ref v151_0, .ref v151_1, .int v151_2, .int f_152, .long f_165, .long v151_5]) := by rw [eM_167]; exact va_up_self _ _ _
                  have hM_169 : M_167 oa = .inr (0, [.ref y0, .ref y1, .ref y2, .int (nI gw9), .long y4]) := by rw [eM_167, va_up_ne _ _ (i_15.neT hb_150 (by decide))]; exact hM_156
                  have hM_170 : M_167 k1 = .inr (2, [.int v92_0, .int v92_1, .int v92_2, .ref v92_3, .int (nI v92_4), .int (nI v92_5), .ref v92_6, .ref v92_7, .ref v92_8, .int (nI v92_9), .ref v92_10, .int (nI v92_11), .ref v92_12, .ref v92_13, .long v92_14, .int v92_15, .ref v92_16, .ref v92_17, .ref v92_18, .ref v92_19]) := by rw [eM_167, va_up_ne _ _ (i_16.neT hb_150 (by decide))]; exact hM_157
                  have hM_171 : M_167 v92_13 = .inl (cy 15, 1000, .inr (.inl (f162))) := by rw [eM_167, va_up_ne _ _ (h92_13.neT hb_150 (by decide))]; exact hM162
                  refine lv_iinc (v := (nI (v4w9 + 1))) (lv' := [(4, .int (nI (v4w9 + 1))), (3, .ref b_149), (0, .ref oa), (1, .ref k1), (2, .int k2)]) hx hb dX0_partDays_85 hl (k := 1) rfl (nI_1 v4w9) (by decide) rfl (fun ls hl => ?_)
                  refine lv_goto (tgt := 14) hx hb dX0_partDays_88 (by decide) ?_
                  refine W.widen (k := 3 * gw9) (n := 18 * gw9) (by omega) (by omega) ?_
                  exact ih_7 (some b_149) (v4w9 + 1) gw9 K L M_167 H_166 _ _ (by omega) (iskN.some hb_150) (by omega) hM_169 i_15 i_16 i_17 i_18 i_19 hb_20 hX0 hW hF hP hD hS (lv_sub hl [0, 1, 2, 3, 4] rfl)
            · have hz := rfl (a := 0)
              refine lv_if_eq (tgt := 48) hx hb dX0_partDays_38 (by decide) (fun _ => ?_) (fun c_172 => absurd c_172 (by decide))
              refine lv_aload_n hx hb dX0_partDays_48 rfl (lv_at hl 1 rfl) ?_
              refine lv_ifnull hx hb dX0_partDays_49 ?_
              refine lv_aload_n hx hb dX0_partDays_52 rfl (lv_at hl 1 rfl) ?_
              refine lv_dup hx hb dX0_partDays_53 rfl ?_
              obtain ⟨v173_0, v173_1, v173_2, v173_3, v173_4, v173_5, hM173, h173_0, h173_1⟩ := hW.open_8 hb_87
              refine pg_get (D := D) (ci := 8) (v := .int v173_3) (C := RX8) (T := TX8) (N := 6) hx hb hg inG8 hown hK hP hb_87.1 hM173 rfl 3 (by decide) (hg _ wd_220) (fun _ h9 => h9) rfl dX0_partDays_54 ?_
              refine lv_iconst (v := 1) hx hb dX0_partDays_57 (by decide) ?_
              refine lv_iadd hx hb dX0_partDays_58 ?_
              refine lv_topi (fun f_174 ef_174 => ?_)
              refine pg_put (D := D) (ci := 8) (v := .int f_174) (ty := .int) (C := RX8) (T := TX8) (N := 6) hx hb hg inG8 tyX8 tyX8_ok nmX8 hown hK hP hD hS hb_87.1 hM173 rfl 3 (by decide) (hg _ wd_220) (fun _ h9 => h9) rfl (by decide +kernel) rfl rfl (Nat.le_of_ble_eq_true rfl) dX0_partDays_59 (fun H_175 locs hP hD hS => ?_)
              obtain ⟨M_176, eM_176⟩ : ∃ M1 : Hp, M1 = va_up M_12 b_21 (.inr (8, [.ref v173_0, .ref v173_1, .int v173_2, .int f_174, .long v173_4, .long v173_5])) := ⟨_, rfl⟩
              have hP : va_P D vwCl ([] ++ va_pl L M_176) H_175 := by rw [eM_176]; exact hP
              have hD : va_D A ([] ++ va_pl L M_176) := by rw [eM_176]; exact hD
              have hW : WOK cy K L M_176 := by rw [eM_176]; exact hW.up_8 hb_87 ⟨v173_0, v173_1, v173_2, f_174, v173_4, v173_5, rfl, h173_0, h173_1⟩
              have hF : fr K0 L0 [0, 8, 21, 72] M0 M_176 := by rw [eM_176]; exact hF.upX hX0 hb_87 (by decide)
              have hM_177 : M_176 b_21 = .inr (8, [.ref v173_0, .ref v173_1, .int v173_2, .int f_174, .long v173_4, .long v173_5]) := by rw [eM_176]; exact va_up_self _ _ _
              have hM_178 : M_176 oa = .inr (0, [.ref y0, .ref y1, .ref y2, .int (nI gw9), .long y4]) := by rw [eM_176, va_up_ne _ _ (i_15.neT hb_87 (by decide))]; exact hM_14
              have hM_179 : M_176 k1 = .inr (2, [.int v92_0, .int v92_1, .int v92_2, .ref v92_3, .int (nI v92_4), .int (nI v92_5), .ref v92_6, .ref v92_7, .ref v92_8, .int (nI v92_9), .ref v92_10, .int (nI v92_11), .ref v92_12, .ref v92_13, .long v92_14, .int v92_15, .ref v92_16, .ref v92_17, .ref v92_18, .ref v92_19]) := by rw [eM_176, va_up_ne _ _ (i_16.neT hb_87 (by decide))]; exact hM92
              refine lv_aload_n hx hb dX0_partDays_62 rfl (lv_at hl 1 rfl) ?_
              refine lv_dup hx hb dX0_partDays_63 rfl ?_
              refine pg_get (D := D) (ci := 8) (v := .long v173_4) (C := RX8) (T := TX8) (N := 6) hx hb hg inG8 hown hK hP hb_87.1 hM_177 rfl 4 (by decide) (hg _ wd_255) (fun _ h9 => h9) rfl dX0_partDays_64 ?_
              refine lv_aload_n hx hb dX0_partDays_67 rfl (lv_at hl 3 rfl) ?_
              refine lv_iload hx hb dX0_partDays_68 (lv_at hl 0 rfl) ?_
              have hPc : va_P D vwCl ([] ++ va_pl L M_176) H_175 := hP
              have hDc : va_D A ([] ++ va_pl L M_176) := hD
              have hFc : ∀ q, va_A ([] ++ va_pl L M_176) H_175.size q → A q := pg_free hDc hS hA
              refine va_calll (va_runV (As := [.int (nI v4w9)]) (rest := [.long v173_4, .ref b_21]) ⟨hx, hb, hml, hown, hg⟩ (s_X2_entriesOn l D cy K L M_176 H_175.size k1 (nI v4w9)  hW i_16) (cwV 1 hg (gV wd_634 wd_508 wd_509 wd_57 wd_510) rfl rfl rfl (by decide +kernel) ⟨(Nat.le_trans (Nat.le_of_ble_eq_true rfl) hRf), (Nat.le_trans (Nat.le_of_ble_eq_true rfl) hRl)⟩) ⟨PG.blind, pg_recv hK hP i_16.1 hM_179 rfl, fun U hU hW => ⟨rfl, PG.at hPc hK hDc hN hU hW⟩⟩ rfl rfl hl.1 rfl (lv_room (Nat.le_of_ble_eq_true rfl)) dX0_partDays_70 ⟨by omega, by omega⟩) hS (fun q _ h => hFc q h) hFc (fun r_181 M_182 t H_180 locs ht hvm hw hB hz1 hk1 hS => ?_)
              have hp_183 := hw
              obtain ⟨hP1, hD1⟩ := hB
              rw [ht] at hP1
              have hP : va_P D vwCl ([] ++ va_pl L M_176) H_180 := hP1
              have hD : va_D A ([] ++ va_pl L M_176) := hD1.mono hFc
              refine lv_aload_n hx hb dX0_partDays_73 rfl (lv_at hl 3 rfl) ?_
              refine pg_get (D := D) (ci := 2) (v := .ref v92_13) (C := RX2) (T := TX2) (N := 20) hx hb hg inG2 hown hK hP i_16.1 hM_179 rfl 13 (by decide) (hg _ wd_635) (fun _ h9 => h9) rfl dX0_partDays_74 ?_
              refine lv_iload hx hb dX0_partDays_77 (lv_at hl 0 rfl) ?_
              obtain ⟨f184, hM184⟩ := hW.open_67 h92_13
              refine pg_lald hx hb hK hP h92_13.1 1 hM184 rfl (inbN v4w9 1000 (by omega) (by omega)) dX0_partDays_79 ?_
              refine lv_topl (fun f_185 ef_185 => ?_)
              refine lv_ladd hx hb dX0_partDays_80 ?_
              refine lv_topl (fun f_186 ef_186 => ?_)
              refine lv_ladd hx hb dX0_partDays_81 ?_
              refine lv_topl (fun f_187 ef_187 => ?_)
              refine pg_put (D := D) (ci := 8) (v := .long f_187) (ty := .long) (C := RX8) (T := TX8) (N := 6) hx hb hg inG8 tyX8 tyX8_ok nmX8 hown hK hP hD hS hb_87.1 hM_177 rfl 4 (by decide) (hg _ wd_255) (fun _ h9 => h9) rfl (by decide +kernel) rfl rfl (Nat.le_of_ble_eq_true rfl) dX0_partDays_82 (fun H_188 locs hP hD hS => ?_)
              obtain ⟨M_189, eM_189⟩ : ∃ M1 : Hp, M1 = va_up M_176 b_21 (.inr (8, [.ref v173_0, .ref v173_1, .int v173_2, .int f_174, .long f_187, .long v173_5])) := ⟨_, rfl⟩
              have hP : va_P D vwCl ([] ++ va_pl L M_189) H_188 := by rw [eM_189]; exact hP
              have hD : va_D A ([] ++ va_pl L M_189) := by rw [eM_189]; exact hD
              have hW : WOK cy K L M_189 := by rw [eM_189]; exact hW.up_8 hb_87 ⟨v173_0, v173_1, v173_2, f_174, f_187, v173_5, rfl, h173_0, h173_1⟩
              have hF : fr K0 L0 [0, 8, 21, 72] M0 M_189 := by rw [eM_189]; exact hF.upX hX0 hb_87 (by decide)
              have hM_190 : M_189 b_21 = .inr (8, [.ref v173_0, .ref v173_1, .int v173_2, .int f_174, .long f_187, .long v173_5]) := by rw [eM_189]; exact va_up_self _ _ _
              have hM_191 : M_189 oa = .inr (0, [.ref y0, .ref y1, .ref y2, .int (nI gw9), .long y4]) := by rw [eM_189, va_up_ne _ _ (i_15.neT hb_87 (by decide))]; exact hM_178
              have hM_192 : M_189 k1 = .inr (2, [.int v92_0, .int v92_1, .int v92_2, .ref v92_3, .int (nI v92_4), .int (nI v92_5), .ref v92_6, .ref v92_7, .ref v92_8, .int (nI v92_9), .ref v92_10, .int (nI v92_11), .ref v92_12, .ref v92_13, .long v92_14, .int v92_15, .ref v92_16, .ref v92_17, .ref v92_18, .ref v92_19]) := by rw [eM_189, va_up_ne _ _ (i_16.neT hb_87 (by decide))]; exact hM_179
              have hM_193 : M_189 v92_13 = .inl (cy 15, 1000, .inr (.inl (f184))) := by rw [eM_189, va_up_ne _ _ (h92_13.neT hb_87 (by decide))]; exact hM184
              refine lv_iinc (v := (nI (v4w9 + 1))) (lv' := [(4, .int (nI (v4w9 + 1))), (3, .ref b_21), (0, .ref oa), (1, .ref k1), (2, .int k2)]) hx hb dX0_partDays_85 hl (k := 0) rfl (nI_1 v4w9) (by decide) rfl (fun ls hl => ?_)
              refine lv_goto (tgt := 14) hx hb dX0_partDays_88 (by decide) ?_
              refine W.widen (k := 3 * gw9) (n := 18 * gw9) (by omega) (by omega) ?_
              exact ih_7 (some b_21) (v4w9 + 1) gw9 K L M_189 H_188 _ _ (by omega) (iskN.some hb_87) (by omega) hM_191 i_15 i_16 i_17 i_18 i_19 hb_20 hX0 hW hF hP hD hS (lv_sub hl [0, 1, 2, 3, 4] rfl)
  refine W.widen (k := 3 * y3) (n := 18 * y3) (by omega) (by omega) ?_
  exact key_6 (1000 - j_4 + 1) none j_4 y3 K L M s.heap _ _ (by omega) iskN.none (by omega) hMy ia ik1 hy0 hy1 hy2 hy3 hX0 hW hF hP hD hS (lv_sub hl [0, 1, 2, 3, 4] rfl)
set_option maxHeartbeats 4000000 in
set_option maxRecDepth 100000 in
theorem s_settleMends (l : Launch) (D : va_G) (cy : Nat → ClassId) (K0 : Kp) (L0 : List Nat) (M0 : Hp) (sz : Nat) (oa : Nat) (k1 : Nat) (y0 : Nat) (y1 : Nat) (y2 : Nat) (y3 : Nat) (y4 : Int64) (hW : WOK cy K0 L0 M0) (ia : isk K0 L0 oa 0 0) (ik1 : isk K0 L0 k1 2 0) (hMy : M0 oa = .inr (0, [.ref y0, .ref y1, .ref y2, .int (nI y3), .long y4])) (hy0 : isk K0 L0 y0 21 120) (hy1 : isk K0 L0 y1 66 100) (hy2 : isk K0 L0 y2 7 0) (hy3 : y3 ≤ 120) : Met l yX0_settleMends (wsM yX0_settleMends cX0_settleMends 5 none) ({ frames := 4, cells := 360, slots := 2160, locals := 108 }) (va_Pc [.ref oa, .ref k1] (PG D cy [] L0 M0 sz)) (va_Qv (fun (u : Kp × List Nat × Hp) => ext K0 L0 u.1 u.2.1 ∧ WOK cy u.1 u.2.1 u.2.2 ∧ fr K0 L0 [0, 7, 8, 9, 21, 64, 65, 68, 69, 70, 71, 72] M0 u.2.2 ∧ fT 9 K0 L0 [11] M0 u.2.2 ∧ (True)) (fun u t => PQ D [] u.2.1 u.2.2 (va_A ([] ++ va_pl L0 M0) sz) t) (va_A ([] ++ va_pl L0 M0) sz)) 360 2160 (va_A ([] ++ va_pl L0 M0) sz) := by
  refine Met.ofW (cc := cX0_settleMends) (maxL := 5) (ret := none) (by decide) rfl ?_
  intro p e s m args below meth c s₁ B hml hv
  obtain ⟨rfl, hsz, hP, hK, hD0, hN⟩ := hv
  have hx := B.exec
  have hb := B.bytes
  have hr := B.returns
  have hts := atoms_spec (ws := (wsM yX0_settleMends cX0_settleMends 5 none)) B.pre
  have hg : ∀ w ∈ lw_good, w.before _ s = true := fun w h => hts w (List.mem_cons_of_mem _ h)
  have hown : s.vm.findClass RX0 = some m.cls := findClass_of_methodNamed B.named
  have hlocks := B.notSynchronized
  subst hsz
  have hD := hD0.self (sz := s.heap.size)
  generalize hAe : va_A ([] ++ va_pl L0 M0) s.heap.size = A at hD ⊢
  have hA : ∀ q : Nat, s.heap.size ≤ q → A q := fun q h => by rw [← hAe]; exact Or.inr h
  have hS : va_S A s.heap s.heap [] := va_S.rf
  have hl := lv_entry ([.ref oa, .ref k1]) (n := 5) (Nat.le_of_ble_eq_true rfl)
  rw [lg_entry_eq]
  generalize (lg_sl ([.ref oa, .ref k1]) ++ List.replicate (5 - (lg_sl ([.ref oa, .ref k1])).length) Slot.unset).toArray = ls at hl ⊢
  refine W.nameQ (fun Q hQ => ?_)
  refine W.nameR (fun R hR => ?_)
  have hRf : 4 ≤ R.frames := by rw [hR]; exact Nat.le_of_ble_eq_true rfl
  have hRl : 108 ≤ R.locals := by rw [hR]; exact Nat.le_of_ble_eq_true rfl
  have hRc : 360 ≤ R.cells := by rw [hR]; exact Nat.le_of_ble_eq_true rfl
  have hRs : 2160 ≤ R.slots := by rw [hR]; exact Nat.le_of_ble_eq_true rfl
  obtain ⟨K, L, M, hX0, hF, hT9, hW, hP, hD, ia, ik1, hMy, hy0, hy1, hy2⟩ : ∃ (K : Kp) (L : List Nat) (M : Hp), ext K0 L0 K L ∧ fr K0 L0 [0, 7, 8, 9, 21, 64, 65, 68, 69, 70, 71, 72] M0 M ∧ fT 9 K0 L0 [11] M0 M ∧ WOK cy K L M ∧ va_P D vwCl ([] ++ va_pl L M) s.heap ∧ va_D A ([] ++ va_pl L M) ∧ isk K L oa 0 0 ∧ isk K L k1 2 0 ∧ M oa = .inr (0, [.ref y0, .ref y1, .ref y2, .int (nI y3), .long y4]) ∧ isk K L y0 21 120 ∧ isk K L y1 66 100 ∧ isk K L y2 7 0 := ⟨K0, L0, M0, ext.rf, fr.rf, fT.rf, hW, hP, hD, ia, ik1, hMy, hy0, hy1, hy2⟩
  have hl : lv_has ls 5 [(0, .ref oa), (1, .ref k1)] := hl
  refine lv_iconst (v := 0) hx hb dX0_settleMends_0 (by decide) ?_
  refine lv_istore_n (lv' := [(2, .int 0), (0, .ref oa), (1, .ref k1)]) hx hb dX0_settleMends_1 rfl hl (by decide) rfl (fun ls hl => ?_)
  have key_1 : ∀ (fu_3 : Nat) (v2w4 : Nat) (gw4 : Nat) (K : Kp) (L : List Nat) (M_6 : Hp) (H_7 : Heap) (locs : List Loc) (ls : Array Slot), 120 - v2w4 < fu_3 → v2w4 ≤ 120 → M_6 oa = .inr (0, [.ref y0, .ref y1, .ref y2, .int (nI gw4), .long y4]) → isk K L oa 0 0 → isk K L k1 2 0 → isk K L y0 21 120 → isk K L y1 66 100 → isk K L y2 7 0 → gw4 ≤ 120 → ext K0 L0 K L → WOK cy K L M_6 → fr K0 L0 [0, 7, 8, 9, 21, 64, 65, 68, 69, 70, 71, 72] M0 M_6 → fT 9 K0 L0 [11] M0 M_6 → va_P D vwCl ([] ++ va_pl L M_6) H_7 → va_D A ([] ++ va_pl L M_6) → va_S A s.heap H_7 locs → lv_has ls 5 [(2, .int (nI v2w4)), (0, .ref oa), (1, .ref k1)] → W p l e R s m ([.ref oa, .ref k1] : List Value).toArray below meth c H_7 locs (3 * gw4) (18 * gw4) Q (F0 m 2 ls []) := by
    intro fu_3
    induction fu_3 with
    | zero => intro v2w4 gw4 K L M_6 H_7 locs ls h; exact absurd h (Nat.not_lt_zero _)
    | succ fu_3 ih_2 =>
      intro v2w4 gw4 K L M_6 H_7 locs ls hfu hx_5 hM_8 i_9 i_10 i_11 i_12 i_13 hb_14 hX0 hW hF hT9 hP hD hS hl
      refine lv_iload_n hx hb dX0_settleMends_2 rfl (lv_at hl 0 rfl) ?_
      refine lv_aload_n hx hb dX0_settleMends_3 rfl (lv_at hl 2 rfl) ?_
      obtain ⟨v15_0, v15_1, v15_2, v15_3, v15_4, v15_5, v15_6, v15_7, v15_8, v15_9, v15_10, v15_11, v15_12, v15_13, v15_14, v15_15, v15_16, v15_17, v15_18, v15_19, hM15, h15_3, h15_4, h15_5, h15_6, h15_7, h15_8, h15_9, h15_10, h15_11, h15_12, h15_13, h15_16, h15_17, h15_18, h15_19⟩ := hW.open_2 i_10
      refine pg_get (D := D) (ci := 2) (v := .ref v15_17) (C := RX2) (T := TX2) (N := 20) hx hb hg inG2 hown hK hP i_10.1 hM15 rfl 17 (by decide) (hg _ wd_640) (fun _ h9 => h9) rfl dX0_settleMends_4 ?_
      obtain ⟨n16, v16_0, v16_1, v16_2, v16_3, hM16, h16_0, h16_1, h16_2, h16_3, y16_0⟩ := hW.open_1 h15_17
      refine pg_get (D := D) (ci := 1) (v := .int (nI v16_3)) (C := RX1) (T := TX1) (N := 4) hx hb hg inG1 hown hK hP h15_17.1 hM16 rfl 3 (by decide) (hg _ wd_225) (fun _ h9 => h9) rfl dX0_settleMends_7 ?_
      refine lv_icmp_ge (tgt := 117) hx hb dX0_settleMends_10 (by decide) (fun c_17 => ?_) (fun c_17 => ?_)
      · have hz := rfl (a := 0)
        have n_18 : v16_3 ≤ v2w4 := (iLE (a := v16_3) (b := v2w4) (by omega) (by omega)).mp c_17
        refine W.widen (k := 360) (n := 2160) (by omega) (by omega) ?_
        rw [hQ]
        exact W.vret hx hb hr (fun t ht hW9 => ⟨⟨(K, L, M_6), rfl, ⟨hX0, hW, hF, hT9, trivial⟩, ⟨by rw [ht]; exact hP, hD⟩⟩, hS.F ht⟩) hS.2.2 dX0_settleMends_117
      · have hz := rfl (a := 0)
        have n_19 : ¬ (v16_3 ≤ v2w4) := fun q => c_17 ((iLE (a := v16_3) (b := v2w4) (by omega) (by omega)).mpr q)
        refine lv_aload_n hx hb dX0_settleMends_13 rfl (lv_at hl 1 rfl) ?_
        refine lv_aload_n hx hb dX0_settleMends_14 rfl (lv_at hl 2 rfl) ?_
        refine pg_get (D := D) (ci := 2) (v := .ref v15_17) (C := RX2) (T := TX2) (N := 20) hx hb hg inG2 hown hK hP i_10.1 hM15 rfl 17 (by decide) (hg _ wd_640) (fun _ h9 => h9) rfl dX0_settleMends_15 ?_
        refine pg_get (D := D) (ci := 1) (v := .ref v16_1) (C := RX1) (T := TX1) (N := 4) hx hb hg inG1 hown hK hP h15_17.1 hM16 rfl 1 (by decide) (hg _ wd_227) (fun _ h9 => h9) rfl dX0_settleMends_18 ?_
        refine lv_iload_n hx hb dX0_settleMends_21 rfl (lv_at hl 0 rfl) ?_
        obtain ⟨f20, hM20⟩ := hW.open_56 h16_1
        refine pg_iald hx hb hK hP h16_1.1 0 hM20 rfl (inbN v2w4 n16 (by omega) (by omega)) dX0_settleMends_22 ?_
        refine lv_topi (fun f_21 ef_21 => ?_)
        rcases Nat.lt_or_ge gw4 120 with hlt | hge
        · have hz := rfl (a := 0)
          have hPc : va_P D vwCl ([] ++ va_pl L M_6) H_7 := hP
          have hDc : va_D A ([] ++ va_pl L M_6) := hD
          have hFc : ∀ q, va_A ([] ++ va_pl L M_6) H_7.size q → A q := pg_free hDc hS hA
          refine va_callq (va_runV (As := [.int f_21]) (rest := []) ⟨hx, hb, hml, hown, hg⟩ (s_append l D cy K L M_6 H_7.size oa f_21 y0 y1 y2 gw4 y4 hW i_9 (by omega) hM_8 i_11 i_12 i_13 hb_14) (cwV 1 hg (gV wd_630 wd_631 wd_632 wd_204 wd_633) rfl rfl rfl (by decide +kernel) ⟨(Nat.le_trans (Nat.le_of_ble_eq_true rfl) hRf), (Nat.le_trans (Nat.le_of_ble_eq_true rfl) hRl)⟩) ⟨PG.blind, pg_recv hK hP i_9.1 hM_8 rfl, fun U hU hW => ⟨rfl, PG.at hPc hK hDc hN hU hW⟩⟩ rfl rfl hl.1 rfl (lv_room (Nat.le_of_ble_eq_true rfl)) dX0_settleMends_23 ⟨by omega, by omega⟩) hS (fun q _ h => hFc q h) hFc (fun r_23 M_24 t H_22 locs ht hvm hw hB hz1 hk1 hS => ?_)
          obtain ⟨K9, L9, M_24m⟩ := M_24
          dsimp only at hw hB
          obtain ⟨hx9, hW, hF2, hM_26, hp_25⟩ := hw
          obtain ⟨hP1, hD1⟩ := hB
          rw [ht] at hP1
          have hP : va_P D vwCl ([] ++ va_pl L9 M_24m) H_22 := hP1
          have hD : va_D A ([] ++ va_pl L9 M_24m) := hD1.mono hFc
          have hM_27 : M_24m k1 = .inr (2, [.int v15_0, .int v15_1, .int v15_2, .ref v15_3, .int (nI v15_4), .int (nI v15_5), .ref v15_6, .ref v15_7, .ref v15_8, .int (nI v15_9), .ref v15_10, .int (nI v15_11), .ref v15_12, .ref v15_13, .long v15_14, .int v15_15, .ref v15_16, .ref v15_17, .ref v15_18, .ref v15_19]) := (hF2.at i_10 (by decide)).trans hM15
          have hM_28 : M_24m v15_17 = .inr (1, [.ref v16_0, .ref v16_1, .ref v16_2, .int (nI v16_3)]) := (hF2.at h15_17 (by decide)).trans hM16
          have hM_29 : M_24m v16_1 = .inl (cy 14, n16, .inl (f20)) := (hF2.at h16_1 (by decide)).trans hM20
          have hb_30 : (gw4 + 1) ≤ 120 := by omega
          have hF : fr K0 L0 [0, 7, 8, 9, 21, 64, 65, 68, 69, 70, 71, 72] M0 M_24m := hF.trX hX0 hF2 (by decide)
          have hT9 : fT 9 K0 L0 [11] M0 M_24m := hT9.frrX hX0 hF2 (by decide)
          have hX0 := hX0.tr hx9
          have i_31 := i_9.ext hx9
          have i_32 := i_10.ext hx9
          have i_33 := i_11.ext hx9
          have i_34 := i_12.ext hx9
          have i_35 := i_13.ext hx9
          have i_36 := h15_3.ext hx9
          have i_37 := h15_6.ext hx9
          have i_38 := h15_7.ext hx9
          have i_39 := h15_8.ext hx9
          have i_40 := h15_10.ext hx9
          have i_41 := h15_12.ext hx9
          have i_42 := h15_13.ext hx9
          have i_43 := h15_16.ext hx9
          have i_44 := h15_17.ext hx9
          have i_45 := h15_18.ext hx9
          have i_46 := h15_19.ext hx9
          have i_47 := h16_0.ext hx9
          have i_48 := h16_1.ext hx9
          have i_49 := h16_2.ext hx9
          obtain ⟨K, L, hK9, hL9⟩ : ∃ (K : Kp) (L : List Nat), K = K9 ∧ L = L9 := ⟨_, _, rfl, rfl⟩
          subst hK9
          subst hL9
          have hz := rfl (a := 0)
          rcases r_23 with _ | b_50
          · have hz := rfl (a := 0)
            refine lv_astore_nN (lv' := [(3, .null), (2, .int (nI v2w4)), (0, .ref oa), (1, .ref k1)]) hx hb dX0_settleMends_26 rfl hl (by decide) rfl (fun ls hl => ?_)
            refine lv_aload_nN hx hb dX0_settleMends_27 rfl (lv_at hl 0 rfl) ?_
            refine lv_ifnonnullN hx hb dX0_settleMends_28 ?_
            refine lv_null hx hb dX0_settleMends_31 ?_
            refine lv_goto (tgt := 43) hx hb dX0_settleMends_32 (by decide) ?_
            refine lv_astoreN (lv' := [(4, .null), (3, .null), (2, .int (nI v2w4)), (0, .ref oa), (1, .ref k1)]) hx hb dX0_settleMends_43 hl (by decide) rfl (fun ls hl => ?_)
            refine lv_aload_nN hx hb dX0_settleMends_45 rfl (lv_at hl 1 rfl) ?_
            refine lv_ifnullN (tgt := 111) hx hb dX0_settleMends_46 (by decide) ?_
            refine lv_iinc (v := (nI (v2w4 + 1))) (lv' := [(2, .int (nI (v2w4 + 1))), (4, .null), (3, .null), (0, .ref oa), (1, .ref k1)]) hx hb dX0_settleMends_111 hl (k := 2) rfl (nI_1 v2w4) (by decide) rfl (fun ls hl => ?_)
            refine lv_goto (tgt := 2) hx hb dX0_settleMends_114 (by decide) ?_
            refine W.widen (k := 3 * (gw4 + 1)) (n := 18 * (gw4 + 1)) (by omega) (by omega) ?_
            exact ih_2 (v2w4 + 1) (gw4 + 1) K L M_24m H_22 _ _ (by omega) (by omega) hM_26 i_31 i_32 i_33 i_34 i_35 hb_30 hX0 hW hF hT9 hP hD hS (lv_sub hl [0, 3, 4] rfl)
          · have hb_51 := hp_25 b_50 rfl
            refine lv_astore_n (lv' := [(3, .ref b_50), (2, .int (nI v2w4)), (0, .ref oa), (1, .ref k1)]) hx hb dX0_settleMends_26 rfl hl (by decide) rfl (fun ls hl => ?_)
            refine lv_aload_n hx hb dX0_settleMends_27 rfl (lv_at hl 0 rfl) ?_
            refine lv_ifnonnull (tgt := 35) hx hb dX0_settleMends_28 (by decide) ?_
            refine lv_aload_n hx hb dX0_settleMends_35 rfl (lv_at hl 3 rfl) ?_
            refine lv_aload_n hx hb dX0_settleMends_36 rfl (lv_at hl 0 rfl) ?_
            obtain ⟨v52_0, v52_1, v52_2, v52_3, v52_4, v52_5, hM52, h52_0, h52_1⟩ := hW.open_8 hb_51
            refine pg_get (D := D) (ci := 8) (v := .int v52_2) (C := RX8) (T := TX8) (N := 6) hx hb hg inG8 hown hK hP hb_51.1 hM52 rfl 2 (by decide) (hg _ wd_228) (fun _ h9 => h9) rfl dX0_settleMends_37 ?_
            have hPc : va_P D vwCl ([] ++ va_pl L M_24m) H_22 := hP
            have hDc : va_D A ([] ++ va_pl L M_24m) := hD
            have hFc : ∀ q, va_A ([] ++ va_pl L M_24m) H_22.size q → A q := pg_free hDc hS hA
            refine va_callq (va_runV (As := [.int v52_2]) (rest := []) ⟨hx, hb, hml, hown, hg⟩ (s_X2_ruleOn l D cy K L M_24m H_22.size k1 v52_2  hW i_32) (cwV 1 hg (gV wd_250 wd_132 wd_133 wd_57 wd_134) rfl rfl rfl (by decide +kernel) ⟨(Nat.le_trans (Nat.le_of_ble_eq_true rfl) hRf), (Nat.le_trans (Nat.le_of_ble_eq_true rfl) hRl)⟩) ⟨PG.blind, pg_recv hK hP i_32.1 hM_27 rfl, fun U hU hW => ⟨rfl, PG.at hPc hK hDc hN hU hW⟩⟩ rfl rfl hl.1 rfl (lv_room (Nat.le_of_ble_eq_true rfl)) dX0_settleMends_40 ⟨by omega, by omega⟩) hS (fun q _ h => hFc q h) hFc (fun r_54 M_55 t H_53 locs ht hvm hw hB hz1 hk1 hS => ?_)
            have hp_56 := hw
            obtain ⟨hP1, hD1⟩ := hB
            rw [ht] at hP1
            have hP : va_P D vwCl ([] ++ va_pl L M_24m) H_53 := hP1
            have hD : va_D A ([] ++ va_pl L M_24m) := hD1.mono hFc
            rcases r_54 with _ | b_57
            · have hz := rfl (a := 0)
              refine lv_astoreN (lv' := [(4, .null), (3, .ref b_50), (2, .int (nI v2w4)), (0, .ref oa), (1, .ref k1)]) hx hb dX0_settleMends_43 hl (by decide) rfl (fun ls hl => ?_)
              refine lv_aload_n hx hb dX0_settleMends_45 rfl (lv_at hl 1 rfl) ?_
              refine lv_ifnull hx hb dX0_settleMends_46 ?_
              refine lv_aloadN hx hb dX0_settleMends_49 (lv_at hl 0 rfl) ?_
              refine lv_ifnonnullN hx hb dX0_settleMends_51 ?_
              refine lv_goto (tgt := 111) hx hb dX0_settleMends_54 (by decide) ?_
              refine lv_iinc (v := (nI (v2w4 + 1))) (lv' := [(2, .int (nI (v2w4 + 1))), (4, .null), (3, .ref b_50), (0, .ref oa), (1, .ref k1)]) hx hb dX0_settleMends_111 hl (k := 2) rfl (nI_1 v2w4) (by decide) rfl (fun ls hl => ?_)
              refine lv_goto (tgt := 2) hx hb dX0_settleMends_114 (by decide) ?_
              refine W.widen (k := 3 * (gw4 + 1)) (n := 18 * (gw4 + 1)) (by omega) (by omega) ?_
              exact ih_2 (v2w4 + 1) (gw4 + 1) K L M_24m H_53 _ _ (by omega) (by omega) hM_26 i_31 i_32 i_33 i_34 i_35 hb_30 hX0 hW hF hT9 hP hD hS (lv_sub hl [0, 3, 4] rfl)
            · have hb_58 := hp_56 b_57 rfl
              refine lv_astore (lv' := [(4, .ref b_57), (3, .ref b_50), (2, .int (nI v2w4)), (0, .ref oa), (1, .ref k1)]) hx hb dX0_settleMends_43 hl (by decide) rfl (fun ls hl => ?_)
              refine lv_aload_n hx hb dX0_settleMends_45 rfl (lv_at hl 1 rfl) ?_
              refine lv_ifnull hx hb dX0_settleMends_46 ?_
              refine lv_aload hx hb dX0_settleMends_49 (lv_at hl 0 rfl) ?_
              refine lv_ifnonnull (tgt := 57) hx hb dX0_settleMends_51 (by decide) ?_
              refine lv_aload_n hx hb dX0_settleMends_57 rfl (lv_at hl 1 rfl) ?_
              refine lv_aload_n hx hb dX0_settleMends_58 rfl (lv_at hl 4 rfl) ?_
              have hPc : va_P D vwCl ([] ++ va_pl L M_24m) H_53 := hP
              have hDc : va_D A ([] ++ va_pl L M_24m) := hD
              have hFc : ∀ q, va_A ([] ++ va_pl L M_24m) H_53.size q → A q := pg_free hDc hS hA
              refine va_callv (va_runV (As := [.ref k1]) (rest := []) ⟨hx, hb, hml, hown, hg⟩ (s_X8_seatAll l D cy K L M_24m H_53.size b_50 k1  hW hb_51 i_32) (cwV 1 hg (gV wd_251 wd_252 wd_253 wd_193 wd_254) rfl rfl rfl (by decide +kernel) ⟨(Nat.le_trans (Nat.le_of_ble_eq_true rfl) hRf), (Nat.le_trans (Nat.le_of_ble_eq_true rfl) hRl)⟩) ⟨PG.blind, pg_recv hK hP hb_51.1 hM52 rfl, fun U hU hW => ⟨rfl, PG.at hPc hK hDc hN hU hW⟩⟩ rfl rfl hl.1 rfl (lv_room (Nat.le_of_ble_eq_true rfl)) dX0_settleMends_59 ⟨by omega, by omega⟩) hS (fun q _ h => hFc q h) hFc (fun M_61 t H_59 locs ht hvm hw hB hz1 hk1 hS => ?_)
              obtain ⟨hW, hF2, hp_62⟩ := hw
              obtain ⟨hP1, hD1⟩ := hB
              rw [ht] at hP1
              have hP : va_P D vwCl ([] ++ va_pl L M_61) H_59 := hP1
              have hD : va_D A ([] ++ va_pl L M_61) := hD1.mono hFc
              have hM_63 : M_61 k1 = .inr (2, [.int v15_0, .int v15_1, .int v15_2, .ref v15_3, .int (nI v15_4), .int (nI v15_5), .ref v15_6, .ref v15_7, .ref v15_8, .int (nI v15_9), .ref v15_10, .int (nI v15_11), .ref v15_12, .ref v15_13, .long v15_14, .int v15_15, .ref v15_16, .ref v15_17, .ref v15_18, .ref v15_19]) := (hF2.at i_32 (by decide)).trans hM_27
              have hM_64 : M_61 v15_17 = .inr (1, [.ref v16_0, .ref v16_1, .ref v16_2, .int (nI v16_3)]) := (hF2.at i_44 (by decide)).trans hM_28
              have hM_65 : M_61 v16_1 = .inl (cy 14, n16, .inl (f20)) := (hF2.at i_48 (by decide)).trans hM_29
              have hM_66 : M_61 oa = .inr (0, [.ref y0, .ref y1, .ref y2, .int (nI (gw4 + 1)), .long y4]) := (hF2.at i_31 (by decide)).trans hM_26
              have hM_67 : M_61 b_50 = .inr (8, [.ref v52_0, .ref v52_1, .int v52_2, .int v52_3, .long v52_4, .long v52_5]) := (hF2.at hb_51 (by decide)).trans hM52
              have hF : fr K0 L0 [0, 7, 8, 9, 21, 64, 65, 68, 69, 70, 71, 72] M0 M_61 := hF.trX hX0 hF2 (by decide)
              have hT9 : fT 9 K0 L0 [11] M0 M_61 := hT9.frrX hX0 hF2 (by decide)
              refine lv_aload_n hx hb dX0_settleMends_62 rfl (lv_at hl 1 rfl) ?_
              refine lv_aload_n hx hb dX0_settleMends_63 rfl (lv_at hl 4 rfl) ?_
              refine pg_get (D := D) (ci := 2) (v := .ref v15_17) (C := RX2) (T := TX2) (N := 20) hx hb hg inG2 hown hK hP i_32.1 hM_63 rfl 17 (by decide) (hg _ wd_640) (fun _ h9 => h9) rfl dX0_settleMends_64 ?_
              refine pg_get (D := D) (ci := 1) (v := .ref v16_2) (C := RX1) (T := TX1) (N := 4) hx hb hg inG1 hown hK hP i_44.1 hM_64 rfl 2 (by decide) (hg _ wd_230) (fun _ h9 => h9) rfl dX0_settleMends_67 ?_
              refine lv_iload_n hx hb dX0_settleMends_70 rfl (lv_at hl 2 rfl) ?_
              obtain ⟨f68, hM68⟩ := hW.open_57 i_49
              refine pg_iald hx hb hK hP i_49.1 0 hM68 rfl (inbN v2w4 n16 (by omega) (by omega)) dX0_settleMends_71 ?_
              refine lv_topi (fun f_69 ef_69 => ?_)
              refine lv_i2l hx hb dX0_settleMends_72 rfl ?_
              refine lv_topl (fun f_70 ef_70 => ?_)
              refine pg_put (D := D) (ci := 8) (v := .long f_70) (ty := .long) (C := RX8) (T := TX8) (N := 6) hx hb hg inG8 tyX8 tyX8_ok nmX8 hown hK hP hD hS hb_51.1 hM_67 rfl 4 (by decide) (hg _ wd_255) (fun _ h9 => h9) rfl (by decide +kernel) rfl rfl (Nat.le_of_ble_eq_true rfl) dX0_settleMends_73 (fun H_71 locs hP hD hS => ?_)
              obtain ⟨M_72, eM_72⟩ : ∃ M1 : Hp, M1 = va_up M_61 b_50 (.inr (8, [.ref v52_0, .ref v52_1, .int v52_2, .int v52_3, .long f_70, .long v52_5])) := ⟨_, rfl⟩
              have hP : va_P D vwCl ([] ++ va_pl L M_72) H_71 := by rw [eM_72]; exact hP
              have hD : va_D A ([] ++ va_pl L M_72) := by rw [eM_72]; exact hD
              have hW : WOK cy K L M_72 := by rw [eM_72]; exact hW.up_8 hb_51 ⟨v52_0, v52_1, v52_2, v52_3, f_70, v52_5, rfl, h52_0, h52_1⟩
              have hF : fr K0 L0 [0, 7, 8, 9, 21, 64, 65, 68, 69, 70, 71, 72] M0 M_72 := by rw [eM_72]; exact hF.upX hX0 hb_51 (by decide)
              have hT9 : fT 9 K0 L0 [11] M0 M_72 := by rw [eM_72]; exact hT9.neX hX0 hb_51 (by decide)
              have hM_73 : M_72 b_50 = .inr (8, [.ref v52_0, .ref v52_1, .int v52_2, .int v52_3, .long f_70, .long v52_5]) := by rw [eM_72]; exact va_up_self _ _ _
              have hM_74 : M_72 k1 = .inr (2, [.int v15_0, .int v15_1, .int v15_2, .ref v15_3, .int (nI v15_4), .int (nI v15_5), .ref v15_6, .ref v15_7, .ref v15_8, .int (nI v15_9), .ref v15_10, .int (nI v15_11), .ref v15_12, .ref v15_13, .long v15_14, .int v15_15, .ref v15_16, .ref v15_17, .ref v15_18, .ref v15_19]) := by rw [eM_72, va_up_ne _ _ (i_32.neT hb_51 (by decide))]; exact hM_63
              have hM_75 : M_72 v15_17 = .inr (1, [.ref v16_0, .ref v16_1, .ref v16_2, .int (nI v16_3)]) := by rw [eM_72, va_up_ne _ _ (i_44.neT hb_51 (by decide))]; exact hM_64
              have hM_76 : M_72 v16_1 = .inl (cy 14, n16, .inl (f20)) := by rw [eM_72, va_up_ne _ _ (i_48.neT hb_51 (by decide))]; exact hM_65
              have hM_77 : M_72 oa = .inr (0, [.ref y0, .ref y1, .ref y2, .int (nI (gw4 + 1)), .long y4]) := by rw [eM_72, va_up_ne _ _ (i_31.neT hb_51 (by decide))]; exact hM_66
              have hM_78 : M_72 v16_2 = .inl (cy 14, n16, .inl (f68)) := by rw [eM_72, va_up_ne _ _ (i_49.neT hb_51 (by decide))]; exact hM68
              refine lv_aload_n hx hb dX0_settleMends_76 rfl (lv_at hl 1 rfl) ?_
              refine pg_get (D := D) (ci := 8) (v := .long f_70) (C := RX8) (T := TX8) (N := 6) hx hb hg inG8 hown hK hP hb_51.1 hM_73 rfl 4 (by decide) (hg _ wd_255) (fun _ h9 => h9) rfl dX0_settleMends_77 ?_
              refine lv_lconst (v := 0) hx hb dX0_settleMends_80 (by decide) ?_
              refine W.lcmp hx hb dX0_settleMends_81 ?_
              refine lv_if_le (tgt := 99) hx hb dX0_settleMends_82 (by decide) (fun c_79 => ?_) (fun c_79 => ?_)
              · have hz := rfl (a := 0)
                have d_80 : f_70 ≤ 0 := lc_let c_79
                refine lv_aload_n hx hb dX0_settleMends_99 rfl (lv_at hl 3 rfl) ?_
                refine lv_aload_n hx hb dX0_settleMends_100 rfl (lv_at hl 1 rfl) ?_
                refine lv_aload hx hb dX0_settleMends_101 (lv_at hl 0 rfl) ?_
                refine lv_aload_n hx hb dX0_settleMends_103 rfl (lv_at hl 1 rfl) ?_
                refine pg_get (D := D) (ci := 8) (v := .long f_70) (C := RX8) (T := TX8) (N := 6) hx hb hg inG8 hown hK hP hb_51.1 hM_73 rfl 4 (by decide) (hg _ wd_255) (fun _ h9 => h9) rfl dX0_settleMends_104 ?_
                refine lv_lneg hx hb dX0_settleMends_107 ?_
                refine lv_topl (fun f_81 ef_81 => ?_)
                have hPc : va_P D vwCl ([] ++ va_pl L M_72) H_71 := hP
                have hDc : va_D A ([] ++ va_pl L M_72) := hD
                have hFc : ∀ q, va_A ([] ++ va_pl L M_72) H_71.size q → A q := pg_free hDc hS hA
                refine va_callv (va_runV (As := [.ref b_50, .ref b_57, .long f_81]) (rest := []) ⟨hx, hb, hml, hown, hg⟩ (s_X0_shareLack l D cy K L M_72 H_71.size oa b_50 b_57 f_81  hW i_31 hb_51 hb_58) (cwV 3 hg (gV wd_264 wd_265 wd_266 wd_204 wd_267) rfl rfl rfl (by decide +kernel) ⟨(Nat.le_trans (Nat.le_of_ble_eq_true rfl) hRf), (Nat.le_trans (Nat.le_of_ble_eq_true rfl) hRl)⟩) ⟨PG.blind, pg_recv hK hP i_31.1 hM_77 rfl, fun U hU hW => ⟨rfl, PG.at hPc hK hDc hN hU hW⟩⟩ rfl rfl hl.1 rfl (lv_room (Nat.le_of_ble_eq_true rfl)) dX0_settleMends_108 ⟨by omega, by omega⟩) hS (fun q _ h => hFc q h) hFc (fun M_84 t H_82 locs ht hvm hw hB hz1 hk1 hS => ?_)
                obtain ⟨hW, hF2, gT9, hp_85⟩ := hw
                obtain ⟨hP1, hD1⟩ := hB
                rw [ht] at hP1
                have hP : va_P D vwCl ([] ++ va_pl L M_84) H_82 := hP1
                have hD : va_D A ([] ++ va_pl L M_84) := hD1.mono hFc
                have hM_86 : M_84 k1 = .inr (2, [.int v15_0, .int v15_1, .int v15_2, .ref v15_3, .int (nI v15_4), .int (nI v15_5), .ref v15_6, .ref v15_7, .ref v15_8, .int (nI v15_9), .ref v15_10, .int (nI v15_11), .ref v15_12, .ref v15_13, .long v15_14, .int v15_15, .ref v15_16, .ref v15_17, .ref v15_18, .ref v15_19]) := (hF2.at i_32 (by decide)).trans hM_74
                have hM_87 : M_84 v15_17 = .inr (1, [.ref v16_0, .ref v16_1, .ref v16_2, .int (nI v16_3)]) := (hF2.at i_44 (by decide)).trans hM_75
                have hM_88 : M_84 v16_1 = .inl (cy 14, n16, .inl (f20)) := (hF2.at i_48 (by decide)).trans hM_76
                have hM_89 : M_84 oa = .inr (0, [.ref y0, .ref y1, .ref y2, .int (nI (gw4 + 1)), .long y4]) := (hF2.at i_31 (by decide)).trans hM_77
                have hM_90 : M_84 v16_2 = .inl (cy 14, n16, .inl (f68)) := (hF2.at i_49 (by decide)).trans hM_78
                have hF : fr K0 L0 [0, 7, 8, 9, 21, 64, 65, 68, 69, 70, 71, 72] M0 M_84 := hF.trX hX0 hF2 (by decide)
                have hT9 : fT 9 K0 L0 [11] M0 M_84 := hT9.trX hX0 gT9 (by decide)
                refine lv_iinc (v := (nI (v2w4 + 1))) (lv' := [(2, .int (nI (v2w4 + 1))), (4, .ref b_57), (3, .ref b_50), (0, .ref oa), (1, .ref k1)]) hx hb dX0_settleMends_111 hl (k := 2) rfl (nI_1 v2w4) (by decide) rfl (fun ls hl => ?_)
                refine lv_goto (tgt := 2) hx hb dX0_settleMends_114 (by decide) ?_
                refine W.widen (k := 3 * (gw4 + 1)) (n := 18 * (gw4 + 1)) (by omega) (by omega) ?_
                exact ih_2 (v2w4 + 1) (gw4 + 1) K L M_84 H_82 _ _ (by omega) (by omega) hM_89 i_31 i_32 i_33 i_34 i_35 hb_30 hX0 hW hF hT9 hP hD hS (lv_sub hl [0, 3, 4] rfl)
              · have hz := rfl (a := 0)
                have d_80 : ¬ f_70 ≤ 0 := lc_lef c_79
                refine lv_aload_n hx hb dX0_settleMends_85 rfl (lv_at hl 3 rfl) ?_
                refine lv_aload_n hx hb dX0_settleMends_86 rfl (lv_at hl 1 rfl) ?_
                refine lv_aload hx hb dX0_settleMends_87 (lv_at hl 0 rfl) ?_
                refine lv_aload_n hx hb dX0_settleMends_89 rfl (lv_at hl 1 rfl) ?_
                refine pg_get (D := D) (ci := 8) (v := .long f_70) (C := RX8) (T := TX8) (N := 6) hx hb hg inG8 hown hK hP hb_51.1 hM_73 rfl 4 (by decide) (hg _ wd_255) (fun _ h9 => h9) rfl dX0_settleMends_90 ?_
                have hPc : va_P D vwCl ([] ++ va_pl L M_72) H_71 := hP
                have hDc : va_D A ([] ++ va_pl L M_72) := hD
                have hFc : ∀ q, va_A ([] ++ va_pl L M_72) H_71.size q → A q := pg_free hDc hS hA
                refine va_callv (va_runV (As := [.ref b_50, .ref b_57, .long f_70]) (rest := []) ⟨hx, hb, hml, hown, hg⟩ (s_X0_shareGain l D cy K L M_72 H_71.size oa b_50 b_57 f_70  hW i_31 hb_51 hb_58) (cwV 3 hg (gV wd_272 wd_273 wd_274 wd_204 wd_275) rfl rfl rfl (by decide +kernel) ⟨(Nat.le_trans (Nat.le_of_ble_eq_true rfl) hRf), (Nat.le_trans (Nat.le_of_ble_eq_true rfl) hRl)⟩) ⟨PG.blind, pg_recv hK hP i_31.1 hM_77 rfl, fun U hU hW => ⟨rfl, PG.at hPc hK hDc hN hU hW⟩⟩ rfl rfl hl.1 rfl (lv_room (Nat.le_of_ble_eq_true rfl)) dX0_settleMends_93 ⟨by omega, by omega⟩) hS (fun q _ h => hFc q h) hFc (fun M_93 t H_91 locs ht hvm hw hB hz1 hk1 hS => ?_)
                obtain ⟨hW, hF2, hp_94⟩ := hw
                obtain ⟨hP1, hD1⟩ := hB
                rw [ht] at hP1
                have hP : va_P D vwCl ([] ++ va_pl L M_93) H_91 := hP1
                have hD : va_D A ([] ++ va_pl L M_93) := hD1.mono hFc
                have hM_95 : M_93 k1 = .inr (2, [.int v15_0, .int v15_1, .int v15_2, .ref v15_3, .int (nI v15_4), .int (nI v15_5), .ref v15_6, .ref v15_7, .ref v15_8, .int (nI v15_9), .ref v15_10, .int (nI v15_11), .ref v15_12, .ref v15_13, .long v15_14, .int v15_15, .ref v15_16, .ref v15_17, .ref v15_18, .ref v15_19]) := (hF2.at i_32 (by decide)).trans hM_74
                have hM_96 : M_93 v15_17 = .inr (1, [.ref v16_0, .ref v16_1, .ref v16_2, .int (nI v16_3)]) := (hF2.at i_44 (by decide)).trans hM_75
                have hM_97 : M_93 v16_1 = .inl (cy 14, n16, .inl (f20)) := (hF2.at i_48 (by decide)).trans hM_76
                have hM_98 : M_93 oa = .inr (0, [.ref y0, .ref y1, .ref y2, .int (nI (gw4 + 1)), .long y4]) := (hF2.at i_31 (by decide)).trans hM_77
                have hM_99 : M_93 v16_2 = .inl (cy 14, n16, .inl (f68)) := (hF2.at i_49 (by decide)).trans hM_78
                have hF : fr K0 L0 [0, 7, 8, 9, 21, 64, 65, 68, 69, 70, 71, 72] M0 M_93 := hF.trX hX0 hF2 (by decide)
                have hT9 : fT 9 K0 L0 [11] M0 M_93 := hT9.frrX hX0 hF2 (by decide)
                refine lv_goto (tgt := 111) hx hb dX0_settleMends_96 (by decide) ?_
                refine lv_iinc (v := (nI (v2w4 + 1))) (lv' := [(2, .int (nI (v2w4 + 1))), (4, .ref b_57), (3, .ref b_50), (0, .ref oa), (1, .ref k1)]) hx hb dX0_settleMends_111 hl (k := 2) rfl (nI_1 v2w4) (by decide) rfl (fun ls hl => ?_)
                refine lv_goto (tgt := 2) hx hb dX0_settleMends_114 (by decide) ?_
                refine W.widen (k := 3 * (gw4 + 1)) (n := 18 * (gw4 + 1)) (by omega) (by omega) ?_
                exact ih_2 (v2w4 + 1) (gw4 + 1) K L M_93 H_91 _ _ (by omega) (by omega) hM_98 i_31 i_32 i_33 i_34 i_35 hb_30 hX0 hW hF hT9 hP hD hS (lv_sub hl [0, 3, 4] rfl)
        · have hz := rfl (a := 0)
          have hPc : va_P D vwCl ([] ++ va_pl L M_6) H_7 := hP
          have hDc : va_D A ([] ++ va_pl L M_6) := hD
          have hFc : ∀ q, va_A ([] ++ va_pl L M_6) H_7.size q → A q := pg_free hDc hS hA
          refine va_callq (va_runV (As := [.int f_21]) (rest := []) ⟨hx, hb, hml, hown, hg⟩ (s_append_full l D cy K L M_6 H_7.size oa f_21 y0 y1 y2 gw4 y4 hW i_9 (by omega) hM_8 i_11 i_12 i_13 hb_14) (cwV 1 hg (gV wd_630 wd_631 wd_632 wd_204 wd_633) rfl rfl rfl (by decide +kernel) ⟨(Nat.le_trans (Nat.le_of_ble_eq_true rfl) hRf), (Nat.le_trans (Nat.le_of_ble_eq_true rfl) hRl)⟩) ⟨PG.blind, pg_recv hK hP i_9.1 hM_8 rfl, fun U hU hW => ⟨rfl, PG.at hPc hK hDc hN hU hW⟩⟩ rfl rfl hl.1 rfl (lv_room (Nat.le_of_ble_eq_true rfl)) dX0_settleMends_23 ⟨by omega, by omega⟩) hS (fun q _ h => hFc q h) hFc (fun r_101 M_102 t H_100 locs ht hvm hw hB hz1 hk1 hS => ?_)
          have hp_103 := hw
          obtain ⟨hP1, hD1⟩ := hB
          rw [ht] at hP1
          have hP : va_P D vwCl ([] ++ va_pl L M_6) H_100 := hP1
          have hD : va_D A ([] ++ va_pl L M_6) := hD1.mono hFc
          rcases r_101 with _ | b_104
          · have hz := rfl (a := 0)
            refine lv_astore_nN (lv' := [(3, .null), (2, .int (nI v2w4)), (0, .ref oa), (1, .ref k1)]) hx hb dX0_settleMends_26 rfl hl (by decide) rfl (fun ls hl => ?_)
            refine lv_aload_nN hx hb dX0_settleMends_27 rfl (lv_at hl 0 rfl) ?_
            refine lv_ifnonnullN hx hb dX0_settleMends_28 ?_
            refine lv_null hx hb dX0_settleMends_31 ?_
            refine lv_goto (tgt := 43) hx hb dX0_settleMends_32 (by decide) ?_
            refine lv_astoreN (lv' := [(4, .null), (3, .null), (2, .int (nI v2w4)), (0, .ref oa), (1, .ref k1)]) hx hb dX0_settleMends_43 hl (by decide) rfl (fun ls hl => ?_)
            refine lv_aload_nN hx hb dX0_settleMends_45 rfl (lv_at hl 1 rfl) ?_
            refine lv_ifnullN (tgt := 111) hx hb dX0_settleMends_46 (by decide) ?_
            refine lv_iinc (v := (nI (v2w4 + 1))) (lv' := [(2, .int (nI (v2w4 + 1))), (4, .null), (3, .null), (0, .ref oa), (1, .ref k1)]) hx hb dX0_settleMends_111 hl (k := 2) rfl (nI_1 v2w4) (by decide) rfl (fun ls hl => ?_)
            refine lv_goto (tgt := 2) hx hb dX0_settleMends_114 (by decide) ?_
            refine W.widen (k := 3 * gw4) (n := 18 * gw4) (by omega) (by omega) ?_
            exact ih_2 (v2w4 + 1) gw4 K L M_6 H_100 _ _ (by omega) (by omega) hM_8 i_9 i_10 i_11 i_12 i_13 hb_14 hX0 hW hF hT9 hP hD hS (lv_sub hl [0, 3, 4] rfl)
          · have hb_105 := hp_103 b_104 rfl
            refine lv_astore_n (lv' := [(3, .ref b_104), (2, .int (nI v2w4)), (0, .ref oa), (1, .ref k1)]) hx hb dX0_settleMends_26 rfl hl (by decide) rfl (fun ls hl => ?_)
            refine lv_aload_n hx hb dX0_settleMends_27 rfl (lv_at hl 0 rfl) ?_
            refine lv_ifnonnull (tgt := 35) hx hb dX0_settleMends_28 (by decide) ?_
            refine lv_aload_n hx hb dX0_settleMends_35 rfl (lv_at hl 3 rfl) ?_
            refine lv_aload_n hx hb dX0_settleMends_36 rfl (lv_at hl 0 rfl) ?_
            obtain ⟨v106_0, v106_1, v106_2, v106_3, v106_4, v106_5, hM106, h106_0, h106_1⟩ := hW.open_8 hb_105
            refine pg_get (D := D) (ci := 8) (v := .int v106_2) (C := RX8) (T := TX8) (N := 6) hx hb hg inG8 hown hK hP hb_105.1 hM106 rfl 2 (by decide) (hg _ wd_228) (fun _ h9 => h9) rfl dX0_settleMends_37 ?_
            have hPc : va_P D vwCl ([] ++ va_pl L M_6) H_100 := hP
            have hDc : va_D A ([] ++ va_pl L M_6) := hD
            have hFc : ∀ q, va_A ([] ++ va_pl L M_6) H_100.size q → A q := pg_free hDc hS hA
            refine va_callq (va_runV (As := [.int v106_2]) (rest := []) ⟨hx, hb, hml, hown, hg⟩ (s_X2_ruleOn l D cy K L M_6 H_100.size k1 v106_2  hW i_10) (cwV 1 hg (gV wd_250 wd_132 wd_133 wd_57 wd_134) rfl rfl rfl (by decide +kernel) ⟨(Nat.le_trans (Nat.le_of_ble_eq_true rfl) hRf), (Nat.le_trans (Nat.le_of_ble_eq_true rfl) hRl)⟩) ⟨PG.blind, pg_recv hK hP i_10.1 hM15 rfl, fun U hU hW => ⟨rfl, PG.at hPc hK hDc hN hU hW⟩⟩ rfl rfl hl.1 rfl (lv_room (Nat.le_of_ble_eq_true rfl)) dX0_settleMends_40 ⟨by omega, by omega⟩) hS (fun q _ h => hFc q h) hFc (fun r_108 M_109 t H_107 locs ht hvm hw hB hz1 hk1 hS => ?_)
            have hp_110 := hw
            obtain ⟨hP1, hD1⟩ := hB
            rw [ht] at hP1
            have hP : va_P D vwCl ([] ++ va_pl L M_6) H_107 := hP1
            have hD : va_D A ([] ++ va_pl L M_6) := hD1.mono hFc
            rcases r_108 with _ | b_111
            · have hz := rfl (a := 0)
              refine lv_astoreN (lv' := [(4, .null), (3, .ref b_104), (2, .int (nI v2w4)), (0, .ref oa), (1, .ref k1)]) hx hb dX0_settleMends_43 hl (by decide) rfl (fun ls hl => ?_)
              refine lv_aload_n hx hb dX0_settleMends_45 rfl (lv_at hl 1 rfl) ?_
              refine lv_ifnull hx hb dX0_settleMends_46 ?_
              refine lv_aloadN hx hb dX0_settleMends_49 (lv_at hl 0 rfl) ?_
              refine lv_ifnonnullN hx hb dX0_settleMends_51 ?_
              refine lv_goto (tgt := 111) hx hb dX0_settleMends_54 (by decide) ?_
              refine lv_iinc (v := (nI (v2w4 + 1))) (lv' := [(2, .int (nI (v2w4 + 1))), (4, .null), (3, .ref b_104), (0, .ref oa), (1, .ref k1)]) hx hb dX0_settleMends_111 hl (k := 2) rfl (nI_1 v2w4) (by decide) rfl (fun ls hl => ?_)
              refine lv_goto (tgt := 2) hx hb dX0_settleMends_114 (by decide) ?_
              refine W.widen (k := 3 * gw4) (n := 18 * gw4) (by omega) (by omega) ?_
              exact ih_2 (v2w4 + 1) gw4 K L M_6 H_107 _ _ (by omega) (by omega) hM_8 i_9 i_10 i_11 i_12 i_13 hb_14 hX0 hW hF hT9 hP hD hS (lv_sub hl [0, 3, 4] rfl)
            · have hb_112 := hp_110 b_111 rfl
              refine lv_astore (lv' := [(4, .ref b_111), (3, .ref b_104), (2, .int (nI v2w4)), (0, .ref oa), (1, .ref k1)]) hx hb dX0_settleMends_43 hl (by decide) rfl (fun ls hl => ?_)
              refine lv_aload_n hx hb dX0_settleMends_45 rfl (lv_at hl 1 rfl) ?_
              refine lv_ifnull hx hb dX0_settleMends_46 ?_
              refine lv_aload hx hb dX0_settleMends_49 (lv_at hl 0 rfl) ?_
              refine lv_ifnonnull (tgt := 57) hx hb dX0_settleMends_51 (by decide) ?_
              refine lv_aload_n hx hb dX0_settleMends_57 rfl (lv_at hl 1 rfl) ?_
              refine lv_aload_n hx hb dX0_settleMends_58 rfl (lv_at hl 4 rfl) ?_
              have hPc : va_P D vwCl ([] ++ va_pl L M_6) H_107 := hP
              have hDc : va_D A ([] ++ va_pl L M_6) := hD
              have hFc : ∀ q, va_A ([] ++ va_pl L M_6) H_107.size q → A q := pg_free hDc hS hA
              refine va_callv (va_runV (As := [.ref k1]) (rest := []) ⟨hx, hb, hml, hown, hg⟩ (s_X8_seatAll l D cy K L M_6 H_107.size b_104 k1  hW hb_105 i_10) (cwV 1 hg (gV wd_251 wd_252 wd_253 wd_193 wd_254) rfl rfl rfl (by decide +kernel) ⟨(Nat.le_trans (Nat.le_of_ble_eq_true rfl) hRf), (Nat.le_trans (Nat.le_of_ble_eq_true rfl) hRl)⟩) ⟨PG.blind, pg_recv hK hP hb_105.1 hM106 rfl, fun U hU hW => ⟨rfl, PG.at hPc hK hDc hN hU hW⟩⟩ rfl rfl hl.1 rfl (lv_room (Nat.le_of_ble_eq_true rfl)) dX0_settleMends_59 ⟨by omega, by omega⟩) hS (fun q _ h => hFc q h) hFc (fun M_115 t H_113 locs ht hvm hw hB hz1 hk1 hS => ?_)
              obtain ⟨hW, hF2, hp_116⟩ := hw
              obtain ⟨hP1, hD1⟩ := hB
              rw [ht] at hP1
              have hP : va_P D vwCl ([] ++ va_pl L M_115) H_113 := hP1
              have hD : va_D A ([] ++ va_pl L M_115) := hD1.mono hFc
              have hM_117 : M_115 oa = .inr (0, [.ref y0, .ref y1, .ref y2, .int (nI gw4), .long y4]) := (hF2.at i_9 (by decide)).trans hM_8
              have hM_118 : M_115 k1 = .inr (2, [.int v15_0, .int v15_1, .int v15_2, .ref v15_3, .int (nI v15_4), .int (nI v15_5), .ref v15_6, .ref v15_7, .ref v15_8, .int (nI v15_9), .ref v15_10, .int (nI v15_11), .ref v15_12, .ref v15_13, .long v15_14, .int v15_15, .ref v15_16, .ref v15_17, .ref v15_18, .ref v15_19]) := (hF2.at i_10 (by decide)).trans hM15
              have hM_119 : M_115 v15_17 = .inr (1, [.ref v16_0, .ref v16_1, .ref v16_2, .int (nI v16_3)]) := (hF2.at h15_17 (by decide)).trans hM16
              have hM_120 : M_115 v16_1 = .inl (cy 14, n16, .inl (f20)) := (hF2.at h16_1 (by decide)).trans hM20
              have hM_121 : M_115 b_104 = .inr (8, [.ref v106_0, .ref v106_1, .int v106_2, .int v106_3, .long v106_4, .long v106_5]) := (hF2.at hb_105 (by decide)).trans hM106
              have hF : fr K0 L0 [0, 7, 8, 9, 21, 64, 65, 68, 69, 70, 71, 72] M0 M_115 := hF.trX hX0 hF2 (by decide)
              have hT9 : fT 9 K0 L0 [11] M0 M_115 := hT9.frrX hX0 hF2 (by decide)
              refine lv_aload_n hx hb dX0_settleMends_62 rfl (lv_at hl 1 rfl) ?_
              refine lv_aload_n hx hb dX0_settleMends_63 rfl (lv_at hl 4 rfl) ?_
              refine pg_get (D := D) (ci := 2) (v := .ref v15_17) (C := RX2) (T := TX2) (N := 20) hx hb hg inG2 hown hK hP i_10.1 hM_118 rfl 17 (by decide) (hg _ wd_640) (fun _ h9 => h9) rfl dX0_settleMends_64 ?_
              refine pg_get (D := D) (ci := 1) (v := .ref v16_2) (C := RX1) (T := TX1) (N := 4) hx hb hg inG1 hown hK hP h15_17.1 hM_119 rfl 2 (by decide) (hg _ wd_230) (fun _ h9 => h9) rfl dX0_settleMends_67 ?_
              refine lv_iload_n hx hb dX0_settleMends_70 rfl (lv_at hl 2 rfl) ?_
              obtain ⟨f122, hM122⟩ := hW.open_57 h16_2
              refine pg_iald hx hb hK hP h16_2.1 0 hM122 rfl (inbN v2w4 n16 (by omega) (by omega)) dX0_settleMends_71 ?_
              refine lv_topi (fun f_123 ef_123 => ?_)
              refine lv_i2l hx hb dX0_settleMends_72 rfl ?_
              refine lv_topl (fun f_124 ef_124 => ?_)
              refine pg_put (D := D) (ci := 8) (v := .long f_124) (ty := .long) (C := RX8) (T := TX8) (N := 6) hx hb hg inG8 tyX8 tyX8_ok nmX8 hown hK hP hD hS hb_105.1 hM_121 rfl 4 (by decide) (hg _ wd_255) (fun _ h9 => h9) rfl (by decide +kernel) rfl rfl (Nat.le_of_ble_eq_true rfl) dX0_settleMends_73 (fun H_125 locs hP hD hS => ?_)
              obtain ⟨M_126, eM_126⟩ : ∃ M1 : Hp, M1 = va_up M_115 b_104 (.inr (8, [.ref v106_0, .ref v106_1, .int v106_2, .int v106_3, .long f_124, .long v106_5])) := ⟨_, rfl⟩
              have hP : va_P D vwCl ([] ++ va_pl L M_126) H_125 := by rw [eM_126]; exact hP
              have hD : va_D A ([] ++ va_pl L M_126) := by rw [eM_126]; exact hD
              have hW : WOK cy K L M_126 := by rw [eM_126]; exact hW.up_8 hb_105 ⟨v106_0, v106_1, v106_2, v106_3, f_124, v106_5, rfl, h106_0, h106_1⟩
              have hF : fr K0 L0 [0, 7, 8, 9, 21, 64, 65, 68, 69, 70, 71, 72] M0 M_126 := by rw [eM_126]; exact hF.upX hX0 hb_105 (by decide)
              have hT9 : fT 9 K0 L0 [11] M0 M_126 := by rw [eM_126]; exact hT9.neX hX0 hb_105 (by decide)
              have hM_127 : M_126 b_104 = .inr (8, [.ref v106_0, .ref v106_1, .int v106_2, .int v106_3, .long f_124, .long v106_5]) := by rw [eM_126]; exact va_up_self _ _ _
              have hM_128 : M_126 oa = .inr (0, [.ref y0, .ref y1, .ref y2, .int (nI gw4), .long y4]) := by rw [eM_126, va_up_ne _ _ (i_9.neT hb_105 (by decide))]; exact hM_117
              have hM_129 : M_126 k1 = .inr (2, [.int v15_0, .int v15_1, .int v15_2, .ref v15_3, .int (nI v15_4), .int (nI v15_5), .ref v15_6, .ref v15_7, .ref v15_8, .int (nI v15_9), .ref v15_10, .int (nI v15_11), .ref v15_12, .ref v15_13, .long v15_14, .int v15_15, .ref v15_16, .ref v15_17, .ref v15_18, .ref v15_19]) := by rw [eM_126, va_up_ne _ _ (i_10.neT hb_105 (by decide))]; exact hM_118
              have hM_130 : M_126 v15_17 = .inr (1, [.ref v16_0, .ref v16_1, .ref v16_2, .int (nI v16_3)]) := by rw [eM_126, va_up_ne _ _ (h15_17.neT hb_105 (by decide))]; exact hM_119
              have hM_131 : M_126 v16_1 = .inl (cy 14, n16, .inl (f20)) := by rw [eM_126, va_up_ne _ _ (h16_1.neT hb_105 (by decide))]; exact hM_120
              have hM_132 : M_126 v16_2 = .inl (cy 14, n16, .inl (f122)) := by rw [eM_126, va_up_ne _ _ (h16_2.neT hb_105 (by decide))]; exact hM122
              refine lv_aload_n hx hb dX0_settleMends_76 rfl (lv_at hl 1 rfl) ?_
              refine pg_get (D := D) (ci := 8) (v := .long f_124) (C := RX8) (T := TX8) (N := 6) hx hb hg inG8 hown hK hP hb_105.1 hM_127 rfl 4 (by decide) (hg _ wd_255) (fun _ h9 => h9) rfl dX0_settleMends_77 ?_
              refine lv_lconst (v := 0) hx hb dX0_settleMends_80 (by decide) ?_
              refine W.lcmp hx hb dX0_settleMends_81 ?_
              refine lv_if_le (tgt := 99) hx hb dX0_settleMends_82 (by decide) (fun c_133 => ?_) (fun c_133 => ?_)
              · have hz := rfl (a := 0)
                have d_134 : f_124 ≤ 0 := lc_let c_133
                refine lv_aload_n hx hb dX0_settleMends_99 rfl (lv_at hl 3 rfl) ?_
                refine lv_aload_n hx hb dX0_settleMends_100 rfl (lv_at hl 1 rfl) ?_
                refine lv_aload hx hb dX0_settleMends_101 (lv_at hl 0 rfl) ?_
                refine lv_aload_n hx hb dX0_settleMends_103 rfl (lv_at hl 1 rfl) ?_
                refine pg_get (D := D) (ci := 8) (v := .long f_124) (C := RX8) (T := TX8) (N := 6) hx hb hg inG8 hown hK hP hb_105.1 hM_127 rfl 4 (by decide) (hg _ wd_255) (fun _ h9 => h9) rfl dX0_settleMends_104 ?_
                refine lv_lneg hx hb dX0_settleMends_107 ?_
                refine lv_topl (fun f_135 ef_135 => ?_)
                have hPc : va_P D vwCl ([] ++ va_pl L M_126) H_125 := hP
                have hDc : va_D A ([] ++ va_pl L M_126) := hD
                have hFc : ∀ q, va_A ([] ++ va_pl L M_126) H_125.size q → A q := pg_free hDc hS hA
                refine va_callv (va_runV (As := [.ref b_104, .ref b_111, .long f_135]) (rest := []) ⟨hx, hb, hml, hown, hg⟩ (s_X0_shareLack l D cy K L M_126 H_125.size oa b_104 b_111 f_135  hW i_9 hb_105 hb_112) (cwV 3 hg (gV wd_264 wd_265 wd_266 wd_204 wd_267) rfl rfl rfl (by decide +kernel) ⟨(Nat.le_trans (Nat.le_of_ble_eq_true rfl) hRf), (Nat.le_trans (Nat.le_of_ble_eq_true rfl) hRl)⟩) ⟨PG.blind, pg_recv hK hP i_9.1 hM_128 rfl, fun U hU hW => ⟨rfl, PG.at hPc hK hDc hN hU hW⟩⟩ rfl rfl hl.1 rfl (lv_room (Nat.le_of_ble_eq_true rfl)) dX0_settleMends_108 ⟨by omega, by omega⟩) hS (fun q _ h => hFc q h) hFc (fun M_138 t H_136 locs ht hvm hw hB hz1 hk1 hS => ?_)
                obtain ⟨hW, hF2, gT9, hp_139⟩ := hw
                obtain ⟨hP1, hD1⟩ := hB
                rw [ht] at hP1
                have hP : va_P D vwCl ([] ++ va_pl L M_138) H_136 := hP1
                have hD : va_D A ([] ++ va_pl L M_138) := hD1.mono hFc
                have hM_140 : M_138 oa = .inr (0, [.ref y0, .ref y1, .ref y2, .int (nI gw4), .long y4]) := (hF2.at i_9 (by decide)).trans hM_128
                have hM_141 : M_138 k1 = .inr (2, [.int v15_0, .int v15_1, .int v15_2, .ref v15_3, .int (nI v15_4), .int (nI v15_5), .ref v15_6, .ref v15_7, .ref v15_8, .int (nI v15_9), .ref v15_10, .int (nI v15_11), .ref v15_12, .ref v15_13, .long v15_14, .int v15_15, .ref v15_16, .ref v15_17, .ref v15_18, .ref v15_19]) := (hF2.at i_10 (by decide)).trans hM_129
                have hM_142 : M_138 v15_17 = .inr (1, [.ref v16_0, .ref v16_1, .ref v16_2, .int (nI v16_3)]) := (hF2.at h15_17 (by decide)).trans hM_130
                have hM_143 : M_138 v16_1 = .inl (cy 14, n16, .inl (f20)) := (hF2.at h16_1 (by decide)).trans hM_131
                have hM_144 : M_138 v16_2 = .inl (cy 14, n16, .inl (f122)) := (hF2.at h16_2 (by decide)).trans hM_132
                have hF : fr K0 L0 [0, 7, 8, 9, 21, 64, 65, 68, 69, 70, 71, 72] M0 M_138 := hF.trX hX0 hF2 (by decide)
                have hT9 : fT 9 K0 L0 [11] M0 M_138 := hT9.trX hX0 gT9 (by decide)
                refine lv_iinc (v := (nI (v2w4 + 1))) (lv' := [(2, .int (nI (v2w4 + 1))), (4, .ref b_111), (3, .ref b_104), (0, .ref oa), (1, .ref k1)]) hx hb dX0_settleMends_111 hl (k := 2) rfl (nI_1 v2w4) (by decide) rfl (fun ls hl => ?_)
                refine lv_goto (tgt := 2) hx hb dX0_settleMends_114 (by decide) ?_
                refine W.widen (k := 3 * gw4) (n := 18 * gw4) (by omega) (by omega) ?_
                exact ih_2 (v2w4 + 1) gw4 K L M_138 H_136 _ _ (by omega) (by omega) hM_140 i_9 i_10 i_11 i_12 i_13 hb_14 hX0 hW hF hT9 hP hD hS (lv_sub hl [0, 3, 4] rfl)
              · have hz := rfl (a := 0)
                have d_134 : ¬ f_124 ≤ 0 := lc_lef c_133
                refine lv_aload_n hx hb dX0_settleMends_85 rfl (lv_at hl 3 rfl) ?_
                refine lv_aload_n hx hb dX0_settleMends_86 rfl (lv_at hl 1 rfl) ?_
                refine lv_aload hx hb dX0_settleMends_87 (lv_at hl 0 rfl) ?_
                refine lv_aload_n hx hb dX0_settleMends_89 rfl (lv_at hl 1 rfl) ?_
                refine pg_get (D := D) (ci := 8) (v := .long f_124) (C := RX8) (T := TX8) (N := 6) hx hb hg inG8 hown hK hP hb_105.1 hM_127 rfl 4 (by decide) (hg _ wd_255) (fun _ h9 => h9) rfl dX0_settleMends_90 ?_
                have hPc : va_P D vwCl ([] ++ va_pl L M_126) H_125 := hP
                have hDc : va_D A ([] ++ va_pl L M_126) := hD
                have hFc : ∀ q, va_A ([] ++ va_pl L M_126) H_125.size q → A q := pg_free hDc hS hA
                refine va_callv (va_runV (As := [.ref b_104, .ref b_111, .long f_124]) (rest := []) ⟨hx, hb, hml, hown, hg⟩ (s_X0_shareGain l D cy K L M_126 H_125.size oa b_104 b_111 f_124  hW i_9 hb_105 hb_112) (cwV 3 hg (gV wd_272 wd_273 wd_274 wd_204 wd_275) rfl rfl rfl (by decide +kernel) ⟨(Nat.le_trans (Nat.le_of_ble_eq_true rfl) hRf), (Nat.le_trans (Nat.le_of_ble_eq_true rfl) hRl)⟩) ⟨PG.blind, pg_recv hK hP i_9.1 hM_128 rfl, fun U hU hW => ⟨rfl, PG.at hPc hK hDc hN hU hW⟩⟩ rfl rfl hl.1 rfl (lv_room (Nat.le_of_ble_eq_true rfl)) dX0_settleMends_93 ⟨by omega, by omega⟩) hS (fun q _ h => hFc q h) hFc (fun M_147 t H_145 locs ht hvm hw hB hz1 hk1 hS => ?_)
                obtain ⟨hW, hF2, hp_148⟩ := hw
                obtain ⟨hP1, hD1⟩ := hB
                rw [ht] at hP1
                have hP : va_P D vwCl ([] ++ va_pl L M_147) H_145 := hP1
                have hD : va_D A ([] ++ va_pl L M_147) := hD1.mono hFc
                have hM_149 : M_147 oa = .inr (0, [.ref y0, .ref y1, .ref y2, .int (nI gw4), .long y4]) := (hF2.at i_9 (by decide)).trans hM_128
                have hM_150 : M_147 k1 = .inr (2, [.int v15_0, .int v15_1, .int v15_2, .ref v15_3, .int (nI v15_4), .int (nI v15_5), .ref v15_6, .ref v15_7, .ref v15_8, .int (nI v15_9), .ref v15_10, .int (nI v15_11), .ref v15_12, .ref v15_13, .long v15_14, .int v15_15, .ref v15_16, .ref v15_17, .ref v15_18, .ref v15_19]) := (hF2.at i_10 (by decide)).trans hM_129
                have hM_151 : M_147 v15_17 = .inr (1, [.ref v16_0, .ref v16_1, .ref v16_2, .int (nI v16_3)]) := (hF2.at h15_17 (by decide)).trans hM_130
                have hM_152 : M_147 v16_1 = .inl (cy 14, n16, .inl (f20)) := (hF2.at h16_1 (by decide)).trans hM_131
                have hM_153 : M_147 v16_2 = .inl (cy 14, n16, .inl (f122)) := (hF2.at h16_2 (by decide)).trans hM_132
                have hF : fr K0 L0 [0, 7, 8, 9, 21, 64, 65, 68, 69, 70, 71, 72] M0 M_147 := hF.trX hX0 hF2 (by decide)
                have hT9 : fT 9 K0 L0 [11] M0 M_147 := hT9.frrX hX0 hF2 (by decide)
                refine lv_goto (tgt := 111) hx hb dX0_settleMends_96 (by decide) ?_
                refine lv_iinc (v := (nI (v2w4 + 1))) (lv' := [(2, .int (nI (v2w4 + 1))), (4, .ref b_111), (3, .ref b_104), (0, .ref oa), (1, .ref k1)]) hx hb dX0_settleMends_111 hl (k := 2) rfl (nI_1 v2w4) (by decide) rfl (fun ls hl => ?_)
                refine lv_goto (tgt := 2) hx hb dX0_settleMends_114 (by decide) ?_
                refine W.widen (k := 3 * gw4) (n := 18 * gw4) (by omega) (by omega) ?_
                exact ih_2 (v2w4 + 1) gw4 K L M_147 H_145 _ _ (by omega) (by omega) hM_149 i_9 i_10 i_11 i_12 i_13 hb_14 hX0 hW hF hT9 hP hD hS (lv_sub hl [0, 3, 4] rfl)
  refine W.widen (k := 3 * y3) (n := 18 * y3) (by omega) (by omega) ?_
  exact key_1 (120 - 0 + 1) 0 y3 K L M s.heap _ _ (by omega) (by omega) hMy ia ik1 hy0 hy1 hy2 hy3 hX0 hW hF hT9 hP hD hS (lv_sub hl [0, 1, 2] rfl)
set_option maxHeartbeats 4000000 in
set_option maxRecDepth 100000 in
theorem s_cutLoose_x (l : Launch) (D : va_G) (cy : Nat → ClassId) (K : Kp) (L : List Nat) (M : Hp) (sz : Nat) (oa : Nat) (k1 : Nat) (z0 : Int32) (z1 : Int32) (z2 : Int32) (z3 : Nat) (z4 : Nat) (z5 : Nat) (z6 : Nat) (z7 : Nat) (z8 : Nat) (z9 : Nat) (z10 : Nat) (z11 : Nat) (z12 : Nat) (z13 : Nat) (z14 : Int64) (z15 : Int32) (z16 : Nat) (z17 : Nat) (z18 : Nat) (z19 : Nat) (hW : WOK cy K L M) (ia : isk K L oa 0 0) (ik1 : isk K L k1 2 0) (hMz : M k1 = .inr (2, [.int z0, .int z1, .int z2, .ref z3, .int (nI z4), .int (nI z5), .ref z6, .ref z7, .ref z8, .int (nI z9), .ref z10, .int (nI z11), .ref z12, .ref z13, .long z14, .int z15, .ref z16, .ref z17, .ref z18, .ref z19])) (hz3 : isk K L z3 51 12) (hz4 : z4 ≤ 12) (hz5 : z5 ≤ 12) (hz6 : isk K L z6 52 6) (hz7 : isk K L z7 61 6) (hz8 : isk K L z8 62 24) (hz9 : z9 ≤ 24) (hz10 : isk K L z10 20 16) (hz11 : z11 ≤ 16) (hz12 : isk K L z12 18 1000) (hz13 : isk K L z13 67 1000) (hz16 : isk K L z16 1 0) (hz17 : isk K L z17 1 0) (hz18 : isk K L z18 10 0) (hz19 : isk K L z19 0 0) : Met l yX0_cutLoose (wsM yX0_cutLoose cX0_cutLoose 4 none) ({ frames := 2, cells := 0, slots := 0, locals := 55 }) (va_Pc [.ref oa, .ref k1] (PG D cy [] L M sz)) (va_Qv (fun (M9 : Hp) => WOK cy K L M9 ∧ fr K L [2, 7, 8, 64, 68, 69, 70] M M9 ∧ fT 2 K L [14] M M9 ∧ M9 k1 = .inr (2, [.int z0, .int z1, .int z2, .ref z3, .int (nI z4), .int (nI z5), .ref z6, .ref z7, .ref z8, .int (nI z9), .ref z10, .int (nI z11), .ref z12, .ref z13, .long 0, .int z15, .ref z16, .ref z17, .ref z18, .ref z19]) ∧ (True)) (fun M9 t => PQ D [] L M9 (va_A ([] ++ va_pl L M) sz) t) (va_A ([] ++ va_pl L M) sz)) 0 0 (va_A ([] ++ va_pl L M) sz) := by
  refine Met.ofW (cc := cX0_cutLoose) (maxL := 4) (ret := none) (by decide) rfl ?_
  intro p e s m args below meth c s₁ B hml hv
  obtain ⟨rfl, hsz, hP, hK, hD0, hN⟩ := hv
  have hx := B.exec
  have hb := B.bytes
  have hr := B.returns
  have hts := atoms_spec (ws := (wsM yX0_cutLoose cX0_cutLoose 4 none)) B.pre
  have hg : ∀ w ∈ lw_good, w.before _ s = true := fun w h => hts w (List.mem_cons_of_mem _ h)
  have hown : s.vm.findClass RX0 = some m.cls := findClass_of_methodNamed B.named
  have hlocks := B.notSynchronized
  subst hsz
  have hD := hD0.self (sz := s.heap.size)
  generalize hAe : va_A ([] ++ va_pl L M) s.heap.size = A at hD ⊢
  have hA : ∀ q : Nat, s.heap.size ≤ q → A q := fun q h => by rw [← hAe]; exact Or.inr h
  have hS : va_S A s.heap s.heap [] := va_S.rf
  have hl := lv_entry ([.ref oa, .ref k1]) (n := 4) (Nat.le_of_ble_eq_true rfl)
  rw [lg_entry_eq]
  generalize (lg_sl ([.ref oa, .ref k1]) ++ List.replicate (4 - (lg_sl ([.ref oa, .ref k1])).length) Slot.unset).toArray = ls at hl ⊢
  refine W.nameQ (fun Q hQ => ?_)
  refine W.nameR (fun R hR => ?_)
  have hRf : 2 ≤ R.frames := by rw [hR]; exact Nat.le_of_ble_eq_true rfl
  have hRl : 55 ≤ R.locals := by rw [hR]; exact Nat.le_of_ble_eq_true rfl
  have hRc : 0 ≤ R.cells := by rw [hR]; exact Nat.le_of_ble_eq_true rfl
  have hRs : 0 ≤ R.slots := by rw [hR]; exact Nat.le_of_ble_eq_true rfl
  have hF : fr K L [2, 7, 8, 64, 68, 69, 70] M M := fr.rf
  have hT2 : fT 2 K L [14] M M := fT.rf
  have hl : lv_has ls 4 [(0, .ref oa), (1, .ref k1)] := hl
  refine lv_aload_n hx hb dX0_cutLoose_0 rfl (lv_at hl 0 rfl) ?_
  obtain ⟨v1_0, v1_1, v1_2, v1_3, v1_4, hM1, h1_0, h1_1, h1_2, h1_3⟩ := hW.open_0 ia
  refine pg_get (D := D) (ci := 0) (v := .ref v1_2) (C := RX0) (T := TX0) (N := 5) hx hb hg inG0 hown hK hP ia.1 hM1 rfl 2 (by decide) (hg _ wd_207) (fun _ h9 => h9) rfl dX0_cutLoose_1 ?_
  obtain ⟨v2_0, v2_1, v2_2, v2_3, v2_4, v2_5, hM2, h2_0, h2_1, h2_2, h2_3, h2_4, h2_5⟩ := hW.open_7 h1_2
  have hPc : va_P D vwCl ([] ++ va_pl L M) s.heap := hP
  have hDc : va_D A ([] ++ va_pl L M) := hD
  have hFc : ∀ q, va_A ([] ++ va_pl L M) s.heap.size q → A q := pg_free hDc hS hA
  refine va_callv (va_runV (As := []) (rest := []) ⟨hx, hb, hml, hown, hg⟩ (s_X7_start l D cy K L M s.heap.size v1_2  hW h1_2) (cwV 0 hg (gV wd_208 wd_209 wd_210 wd_148 wd_211) rfl rfl rfl (by decide +kernel) ⟨(Nat.le_trans (Nat.le_of_ble_eq_true rfl) hRf), (Nat.le_trans (Nat.le_of_ble_eq_true rfl) hRl)⟩) ⟨PG.blind, pg_recv hK hP h1_2.1 hM2 rfl, fun U hU hW => ⟨rfl, PG.at hPc hK hDc hN hU hW⟩⟩ rfl rfl hl.1 rfl (lv_room (Nat.le_of_ble_eq_true rfl)) dX0_cutLoose_4 ⟨(Nat.le_trans (Nat.le_of_ble_eq_true rfl) hRc), (Nat.le_trans (Nat.le_of_ble_eq_true rfl) hRs)⟩) hS (fun q _ h => hFc q h) hFc (fun M_5 t H_3 locs ht hvm hw hB hz1 hk1 hS => ?_)
  obtain ⟨hW, hF2, hp_6⟩ := hw
  obtain ⟨hP1, hD1⟩ := hB
  rw [ht] at hP1
  have hP : va_P D vwCl ([] ++ va_pl L M_5) H_3 := hP1
  have hD : va_D A ([] ++ va_pl L M_5) := hD1.mono hFc
  have hM_7 : M_5 k1 = .inr (2, [.int z0, .int z1, .int z2, .ref z3, .int (nI z4), .int (nI z5), .ref z6, .ref z7, .ref z8, .int (nI z9), .ref z10, .int (nI z11), .ref z12, .ref z13, .long z14, .int z15, .ref z16, .ref z17, .ref z18, .ref z19]) := (hF2.at ik1 (by decide)).trans hMz
  have hM_8 : M_5 oa = .inr (0, [.ref v1_0, .ref v1_1, .ref v1_2, .int (nI v1_3), .long v1_4]) := (hF2.at ia (by decide)).trans hM1
  have hF : fr K L [2, 7, 8, 64, 68, 69, 70] M M_5 := hF.tr hF2 (by decide)
  have hT2 : fT 2 K L [14] M M_5 := hT2.frr hF2 (by decide)
  refine lv_iconst (v := 0) hx hb dX0_cutLoose_7 (by decide) ?_
  refine lv_istore_n (lv' := [(2, .int 0), (0, .ref oa), (1, .ref k1)]) hx hb dX0_cutLoose_8 rfl hl (by decide) rfl (fun ls hl => ?_)
  have key_9 : ∀ (fu_11 : Nat) (v2w12 : Nat) (M_14 : Hp) (H_15 : Heap) (locs : List Loc) (ls : Array Slot), 120 - v2w12 < fu_11 → M_14 k1 = .inr (2, [.int z0, .int z1, .int z2, .ref z3, .int (nI z4), .int (nI z5), .ref z6, .ref z7, .ref z8, .int (nI z9), .ref z10, .int (nI z11), .ref z12, .ref z13, .long z14, .int z15, .ref z16, .ref z17, .ref z18, .ref z19]) → v2w12 ≤ 120 → WOK cy K L M_14 → fr K L [2, 7, 8, 64, 68, 69, 70] M M_14 → fT 2 K L [14] M M_14 → va_P D vwCl ([] ++ va_pl L M_14) H_15 → va_D A ([] ++ va_pl L M_14) → va_S A s.heap H_15 locs → lv_has ls 4 [(2, .int (nI v2w12)), (0, .ref oa), (1, .ref k1)] → W p l e R s m ([.ref oa, .ref k1] : List Value).toArray below meth c H_15 locs 0 0 Q (F0 m 9 ls []) := by
    intro fu_11
    induction fu_11 with
    | zero => intro v2w12 M_14 H_15 locs ls h; exact absurd h (Nat.not_lt_zero _)
    | succ fu_11 ih_10 =>
      intro v2w12 M_14 H_15 locs ls hfu hM_16 hx_13 hW hF hT2 hP hD hS hl
      refine lv_iload_n hx hb dX0_cutLoose_9 rfl (lv_at hl 0 rfl) ?_
      refine lv_aload_n hx hb dX0_cutLoose_10 rfl (lv_at hl 1 rfl) ?_
      obtain ⟨v17_0, v17_1, v17_2, v17_3, v17_4, hM17, h17_0, h17_1, h17_2, h17_3⟩ := hW.open_0 ia
      refine pg_get (D := D) (ci := 0) (v := .int (nI v17_3)) (C := RX0) (T := TX0) (N := 5) hx hb hg inG0 hown hK hP ia.1 hM17 rfl 3 (by decide) (hg _ wd_199) (fun _ h9 => h9) rfl dX0_cutLoose_11 ?_
      refine lv_icmp_ge (tgt := 50) hx hb dX0_cutLoose_14 (by decide) (fun c_18 => ?_) (fun c_18 => ?_)
      · have hz := rfl (a := 0)
        have n_19 : v17_3 ≤ v2w12 := (iLE (a := v17_3) (b := v2w12) (by omega) (by omega)).mp c_18
        refine lv_aload_n hx hb dX0_cutLoose_50 rfl (lv_at hl 1 rfl) ?_
        refine pg_get (D := D) (ci := 0) (v := .ref v17_2) (C := RX0) (T := TX0) (N := 5) hx hb hg inG0 hown hK hP ia.1 hM17 rfl 2 (by decide) (hg _ wd_207) (fun _ h9 => h9) rfl dX0_cutLoose_51 ?_
        refine lv_aload_n hx hb dX0_cutLoose_54 rfl (lv_at hl 2 rfl) ?_
        refine pg_get (D := D) (ci := 2) (v := .long z14) (C := RX2) (T := TX2) (N := 20) hx hb hg inG2 hown hK hP ik1.1 hM_16 rfl 14 (by decide) (hg _ wd_276) (fun _ h9 => h9) rfl dX0_cutLoose_55 ?_
        obtain ⟨v20_0, v20_1, v20_2, v20_3, v20_4, v20_5, hM20, h20_0, h20_1, h20_2, h20_3, h20_4, h20_5⟩ := hW.open_7 h17_2
        have hPc : va_P D vwCl ([] ++ va_pl L M_14) H_15 := hP
        have hDc : va_D A ([] ++ va_pl L M_14) := hD
        have hFc : ∀ q, va_A ([] ++ va_pl L M_14) H_15.size q → A q := pg_free hDc hS hA
        refine va_calll (va_runV (As := [.long z14]) (rest := []) ⟨hx, hb, hml, hown, hg⟩ (s_X7_cut l D cy K L M_14 H_15.size v17_2 z14  hW h17_2) (cwV 1 hg (gV wd_243 wd_162 wd_163 wd_148 wd_164) rfl rfl rfl (by decide +kernel) ⟨(Nat.le_trans (Nat.le_of_ble_eq_true rfl) hRf), (Nat.le_trans (Nat.le_of_ble_eq_true rfl) hRl)⟩) ⟨PG.blind, pg_recv hK hP h17_2.1 hM20 rfl, fun U hU hW => ⟨rfl, PG.at hPc hK hDc hN hU hW⟩⟩ rfl rfl hl.1 rfl (lv_room (Nat.le_of_ble_eq_true rfl)) dX0_cutLoose_58 ⟨(Nat.le_trans (Nat.le_of_ble_eq_true rfl) hRc), (Nat.le_trans (Nat.le_of_ble_eq_true rfl) hRs)⟩) hS (fun q _ h => hFc q h) hFc (fun r_22 M_23 t H_21 locs ht hvm hw hB hz1 hk1 hS => ?_)
        obtain ⟨hW, hF2, hp_24⟩ := hw
        obtain ⟨hP1, hD1⟩ := hB
        rw [ht] at hP1
        have hP : va_P D vwCl ([] ++ va_pl L M_23) H_21 := hP1
        have hD : va_D A ([] ++ va_pl L M_23) := hD1.mono hFc
        have hM_25 : M_23 k1 = .inr (2, [.int z0, .int z1, .int z2, .ref z3, .int (nI z4), .int (nI z5), .ref z6, .ref z7, .ref z8, .int (nI z9), .ref z10, .int (nI z11), .ref z12, .ref z13, .long z14, .int z15, .ref z16, .ref z17, .ref z18, .ref z19]) := (hF2.at ik1 (by decide)).trans hM_16
        have hM_26 : M_23 oa = .inr (0, [.ref v17_0, .ref v17_1, .ref v17_2, .int (nI v17_3), .long v17_4]) := (hF2.at ia (by decide)).trans hM17
        have hM_27 : M_23 v17_2 = .inr (7, [.ref v20_0, .ref v20_1, .ref v20_2, .ref v20_3, .ref v20_4, .int (nI v20_5)]) := (hF2.at h17_2 (by decide)).trans hM20
        have hF : fr K L [2, 7, 8, 64, 68, 69, 70] M M_23 := hF.tr hF2 (by decide)
        have hT2 : fT 2 K L [14] M M_23 := hT2.frr hF2 (by decide)
        refine lv_pop2_2 hx hb dX0_cutLoose_61 rfl ?_
        refine lv_aload_n hx hb dX0_cutLoose_62 rfl (lv_at hl 2 rfl) ?_
        refine lv_lconst (v := 0) hx hb dX0_cutLoose_63 (by decide) ?_
        refine pg_put (D := D) (ci := 2) (v := .long 0) (ty := .long) (C := RX2) (T := TX2) (N := 20) hx hb hg inG2 tyX2 tyX2_ok nmX2 hown hK hP hD hS ik1.1 hM_25 rfl 14 (by decide) (hg _ wd_276) (fun _ h9 => h9) rfl (by decide +kernel) rfl rfl (Nat.le_of_ble_eq_true rfl) dX0_cutLoose_64 (fun H_28 locs hP hD hS => ?_)
        obtain ⟨M_29, eM_29⟩ : ∃ M1 : Hp, M1 = va_up M_23 k1 (.inr (2, [.int z0, .int z1, .int z2, .ref z3, .int (nI z4), .int (nI z5), .ref z6, .ref z7, .ref z8, .int (nI z9), .ref z10, .int (nI z11), .ref z12, .ref z13, .long 0, .int z15, .ref z16, .ref z17, .ref z18, .ref z19])) := ⟨_, rfl⟩
        have hP : va_P D vwCl ([] ++ va_pl L M_29) H_28 := by rw [eM_29]; exact hP
        have hD : va_D A ([] ++ va_pl L M_29) := by rw [eM_29]; exact hD
        have hW : WOK cy K L M_29 := by rw [eM_29]; exact hW.up_2 ik1 ⟨z0, z1, z2, z3, z4, z5, z6, z7, z8, z9, z10, z11, z12, z13, 0, z15, z16, z17, z18, z19, rfl, hz3, hz4, hz5, hz6, hz7, hz8, hz9, hz10, hz11, hz12, hz13, hz16, hz17, hz18, hz19⟩
        have hF : fr K L [2, 7, 8, 64, 68, 69, 70] M M_29 := by rw [eM_29]; exact hF.up ik1 (by decide)
        have hT2 : fT 2 K L [14] M M_29 := by rw [eM_29]; exact hT2.up (i := 14) hM_25 rfl (by decide)
        have hM_30 : M_29 k1 = .inr (2, [.int z0, .int z1, .int z2, .ref z3, .int (nI z4), .int (nI z5), .ref z6, .ref z7, .ref z8, .int (nI z9), .ref z10, .int (nI z11), .ref z12, .ref z13, .long 0, .int z15, .ref z16, .ref z17, .ref z18, .ref z19]) := by rw [eM_29]; exact va_up_self _ _ _
        have hM_31 : M_29 oa = .inr (0, [.ref v17_0, .ref v17_1, .ref v17_2, .int (nI v17_3), .long v17_4]) := by rw [eM_29, va_up_ne _ _ (ia.neT ik1 (by decide))]; exact hM_26
        have hM_32 : M_29 v17_2 = .inr (7, [.ref v20_0, .ref v20_1, .ref v20_2, .ref v20_3, .ref v20_4, .int (nI v20_5)]) := by rw [eM_29, va_up_ne _ _ (h17_2.neT ik1 (by decide))]; exact hM_27
        refine lv_iconst (v := 0) hx hb dX0_cutLoose_67 (by decide) ?_
        refine lv_istore_n (lv' := [(2, .int 0), (0, .ref oa), (1, .ref k1)]) hx hb dX0_cutLoose_68 rfl hl (by decide) rfl (fun ls hl => ?_)
        have key_33 : ∀ (fu_35 : Nat) (v2w36 : Nat) (M_38 : Hp) (H_39 : Heap) (locs : List Loc) (ls : Array Slot), 120 - v2w36 < fu_35 → M_38 k1 = .inr (2, [.int z0, .int z1, .int z2, .ref z3, .int (nI z4), .int (nI z5), .ref z6, .ref z7, .ref z8, .int (nI z9), .ref z10, .int (nI z11), .ref z12, .ref z13, .long 0, .int z15, .ref z16, .ref z17, .ref z18, .ref z19]) → v2w36 ≤ 120 → WOK cy K L M_38 → fr K L [2, 7, 8, 64, 68, 69, 70] M M_38 → fT 2 K L [14] M M_38 → va_P D vwCl ([] ++ va_pl L M_38) H_39 → va_D A ([] ++ va_pl L M_38) → va_S A s.heap H_39 locs → lv_has ls 4 [(2, .int (nI v2w36)), (0, .ref oa), (1, .ref k1)] → W p l e R s m ([.ref oa, .ref k1] : List Value).toArray below meth c H_39 locs 0 0 Q (F0 m 69 ls []) := by
          intro fu_35
          induction fu_35 with
          | zero => intro v2w36 M_38 H_39 locs ls h; exact absurd h (Nat.not_lt_zero _)
          | succ fu_35 ih_34 =>
            intro v2w36 M_38 H_39 locs ls hfu hM_40 hx_37 hW hF hT2 hP hD hS hl
            refine lv_iload_n hx hb dX0_cutLoose_69 rfl (lv_at hl 0 rfl) ?_
            refine lv_aload_n hx hb dX0_cutLoose_70 rfl (lv_at hl 1 rfl) ?_
            obtain ⟨v41_0, v41_1, v41_2, v41_3, v41_4, hM41, h41_0, h41_1, h41_2, h41_3⟩ := hW.open_0 ia
            refine pg_get (D := D) (ci := 0) (v := .ref v41_2) (C := RX0) (T := TX0) (N := 5) hx hb hg inG0 hown hK hP ia.1 hM41 rfl 2 (by decide) (hg _ wd_207) (fun _ h9 => h9) rfl dX0_cutLoose_71 ?_
            obtain ⟨v42_0, v42_1, v42_2, v42_3, v42_4, v42_5, hM42, h42_0, h42_1, h42_2, h42_3, h42_4, h42_5⟩ := hW.open_7 h41_2
            refine pg_get (D := D) (ci := 7) (v := .int (nI v42_5)) (C := RX7) (T := TX7) (N := 6) hx hb hg inG7 hown hK hP h41_2.1 hM42 rfl 5 (by decide) (hg _ wd_277) (fun _ h9 => h9) rfl dX0_cutLoose_74 ?_
            refine lv_icmp_ge (tgt := 114) hx hb dX0_cutLoose_77 (by decide) (fun c_43 => ?_) (fun c_43 => ?_)
            · have hz := rfl (a := 0)
              have n_44 : v42_5 ≤ v2w36 := (iLE (a := v42_5) (b := v2w36) (by omega) (by omega)).mp c_43
              rw [hQ]
              exact W.vret hx hb hr (fun t ht hW9 => ⟨⟨M_38, rfl, ⟨hW, hF, hT2, hM_40, trivial⟩, ⟨by rw [ht]; exact hP, hD⟩⟩, hS.F ht⟩) hS.2.2 dX0_cutLoose_114
            · have hz := rfl (a := 0)
              have n_45 : ¬ (v42_5 ≤ v2w36) := fun q => c_43 ((iLE (a := v42_5) (b := v2w36) (by omega) (by omega)).mpr q)
              refine lv_aload_n hx hb dX0_cutLoose_80 rfl (lv_at hl 1 rfl) ?_
              refine lv_iload_n hx hb dX0_cutLoose_81 rfl (lv_at hl 0 rfl) ?_
              have hPc : va_P D vwCl ([] ++ va_pl L M_38) H_39 := hP
              have hDc : va_D A ([] ++ va_pl L M_38) := hD
              have hFc : ∀ q, va_A ([] ++ va_pl L M_38) H_39.size q → A q := pg_free hDc hS hA
              refine va_callq (va_runV (As := [.int (nI v2w36)]) (rest := []) ⟨hx, hb, hml, hown, hg⟩ (s_X0_at l D cy K L M_38 H_39.size oa (nI v2w36)  hW ia) (cwV 1 hg (gV wd_201 wd_202 wd_203 wd_204 wd_205) rfl rfl rfl (by decide +kernel) ⟨(Nat.le_trans (Nat.le_of_ble_eq_true rfl) hRf), (Nat.le_trans (Nat.le_of_ble_eq_true rfl) hRl)⟩) ⟨PG.blind, pg_recv hK hP ia.1 hM41 rfl, fun U hU hW => ⟨rfl, PG.at hPc hK hDc hN hU hW⟩⟩ rfl rfl hl.1 rfl (lv_room (Nat.le_of_ble_eq_true rfl)) dX0_cutLoose_82 ⟨(Nat.le_trans (Nat.le_of_ble_eq_true rfl) hRc), (Nat.le_trans (Nat.le_of_ble_eq_true rfl) hRs)⟩) hS (fun q _ h => hFc q h) hFc (fun r_47 M_48 t H_46 locs ht hvm hw hB hz1 hk1 hS => ?_)
              have hp_49 := hw
              obtain ⟨hP1, hD1⟩ := hB
              rw [ht] at hP1
              have hP : va_P D vwCl ([] ++ va_pl L M_38) H_46 := hP1
              have hD : va_D A ([] ++ va_pl L M_38) := hD1.mono hFc
              rcases r_47 with _ | b_50
              · have hz := rfl (a := 0)
                refine lv_astore_nN (lv' := [(3, .null), (2, .int (nI v2w36)), (0, .ref oa), (1, .ref k1)]) hx hb dX0_cutLoose_85 rfl hl (by decide) rfl (fun ls hl => ?_)
                refine lv_aload_nN hx hb dX0_cutLoose_86 rfl (lv_at hl 0 rfl) ?_
                refine lv_ifnullN (tgt := 108) hx hb dX0_cutLoose_87 (by decide) ?_
                refine lv_iinc (v := (nI (v2w36 + 1))) (lv' := [(2, .int (nI (v2w36 + 1))), (3, .null), (0, .ref oa), (1, .ref k1)]) hx hb dX0_cutLoose_108 hl (k := 1) rfl (nI_1 v2w36) (by decide) rfl (fun ls hl => ?_)
                refine lv_goto (tgt := 69) hx hb dX0_cutLoose_111 (by decide) ?_
                exact ih_34 (v2w36 + 1) M_38 H_46 _ _ (by omega) hM_40 (by omega) hW hF hT2 hP hD hS (lv_sub hl [0, 2, 3] rfl)
              · have hb_51 := hp_49 b_50 rfl
                refine lv_astore_n (lv' := [(3, .ref b_50), (2, .int (nI v2w36)), (0, .ref oa), (1, .ref k1)]) hx hb dX0_cutLoose_85 rfl hl (by decide) rfl (fun ls hl => ?_)
                refine lv_aload_n hx hb dX0_cutLoose_86 rfl (lv_at hl 0 rfl) ?_
                refine lv_ifnull hx hb dX0_cutLoose_87 ?_
                refine lv_aload_n hx hb dX0_cutLoose_90 rfl (lv_at hl 0 rfl) ?_
                refine lv_dup hx hb dX0_cutLoose_91 rfl ?_
                obtain ⟨v52_0, v52_1, v52_2, v52_3, v52_4, v52_5, hM52, h52_0, h52_1⟩ := hW.open_8 hb_51
                refine pg_get (D := D) (ci := 8) (v := .long v52_4) (C := RX8) (T := TX8) (N := 6) hx hb hg inG8 hown hK hP hb_51.1 hM52 rfl 4 (by decide) (hg _ wd_255) (fun _ h9 => h9) rfl dX0_cutLoose_92 ?_
                refine lv_aload_n hx hb dX0_cutLoose_95 rfl (lv_at hl 2 rfl) ?_
                refine pg_get (D := D) (ci := 0) (v := .ref v41_2) (C := RX0) (T := TX0) (N := 5) hx hb hg inG0 hown hK hP ia.1 hM41 rfl 2 (by decide) (hg _ wd_207) (fun _ h9 => h9) rfl dX0_cutLoose_96 ?_
                refine pg_get (D := D) (ci := 7) (v := .ref v42_2) (C := RX7) (T := TX7) (N := 6) hx hb hg inG7 hown hK hP h41_2.1 hM42 rfl 2 (by decide) (hg _ wd_244) (fun _ h9 => h9) rfl dX0_cutLoose_99 ?_
                refine lv_iload_n hx hb dX0_cutLoose_102 rfl (lv_at hl 1 rfl) ?_
                obtain ⟨f53, hM53⟩ := hW.open_69 h42_2
                refine pg_lald hx hb hK hP h42_2.1 1 hM53 rfl (inbN v2w36 100 (by omega) (by omega)) dX0_cutLoose_103 ?_
                refine lv_topl (fun f_54 ef_54 => ?_)
                refine lv_ladd hx hb dX0_cutLoose_104 ?_
                refine lv_topl (fun f_55 ef_55 => ?_)
                refine pg_put (D := D) (ci := 8) (v := .long f_55) (ty := .long) (C := RX8) (T := TX8) (N := 6) hx hb hg inG8 tyX8 tyX8_ok nmX8 hown hK hP hD hS hb_51.1 hM52 rfl 4 (by decide) (hg _ wd_255) (fun _ h9 => h9) rfl (by decide +kernel) rfl rfl (Nat.le_of_ble_eq_true rfl) dX0_cutLoose_105 (fun H_56 locs hP hD hS => ?_)
                obtain ⟨M_57, eM_57⟩ : ∃ M1 : Hp, M1 = va_up M_38 b_50 (.inr (8, [.ref v52_0, .ref v52_1, .int v52_2, .int v52_3, .long f_55, .long v52_5])) := ⟨_, rfl⟩
                have hP : va_P D vwCl ([] ++ va_pl L M_57) H_56 := by rw [eM_57]; exact hP
                have hD : va_D A ([] ++ va_pl L M_57) := by rw [eM_57]; exact hD
                have hW : WOK cy K L M_57 := by rw [eM_57]; exact hW.up_8 hb_51 ⟨v52_0, v52_1, v52_2, v52_3, f_55, v52_5, rfl, h52_0, h52_1⟩
                have hF : fr K L [2, 7, 8, 64, 68, 69, 70] M M_57 := by rw [eM_57]; exact hF.up hb_51 (by decide)
                have hT2 : fT 2 K L [14] M M_57 := by rw [eM_57]; exact hT2.ne hb_51 (by decide)
                have hM_58 : M_57 b_50 = .inr (8, [.ref v52_0, .ref v52_1, .int v52_2, .int v52_3, .long f_55, .long v52_5]) := by rw [eM_57]; exact va_up_self _ _ _
                have hM_59 : M_57 k1 = .inr (2, [.int z0, .int z1, .int z2, .ref z3, .int (nI z4), .int (nI z5), .ref z6, .ref z7, .ref z8, .int (nI z9), .ref z10, .int (nI z11), .ref z12, .ref z13, .long 0, .int z15, .ref z16, .ref z17, .ref z18, .ref z19]) := by rw [eM_57, va_up_ne _ _ (ik1.neT hb_51 (by decide))]; exact hM_40
                have hM_60 : M_57 oa = .inr (0, [.ref v41_0, .ref v41_1, .ref v41_2, .int (nI v41_3), .long v41_4]) := by rw [eM_57, va_up_ne _ _ (ia.neT hb_51 (by decide))]; exact hM41
                have hM_61 : M_57 v41_2 = .inr (7, [.ref v42_0, .ref v42_1, .ref v42_2, .ref v42_3, .ref v42_4, .int (nI v42_5)]) := by rw [eM_57, va_up_ne _ _ (h41_2.neT hb_51 (by decide))]; exact hM42
                have hM_62 : M_57 v42_2 = .inl (cy 15, 100, .inr (.inl (f53))) := by rw [eM_57, va_up_ne _ _ (h42_2.neT hb_51 (by decide))]; exact hM53
                refine lv_iinc (v := (nI (v2w36 + 1))) (lv' := [(2, .int (nI (v2w36 + 1))), (3, .ref b_50), (0, .ref oa), (1, .ref k1)]) hx hb dX0_cutLoose_108 hl (k := 1) rfl (nI_1 v2w36) (by decide) rfl (fun ls hl => ?_)
                refine lv_goto (tgt := 69) hx hb dX0_cutLoose_111 (by decide) ?_
                exact ih_34 (v2w36 + 1) M_57 H_56 _ _ (by omega) hM_59 (by omega) hW hF hT2 hP hD hS (lv_sub hl [0, 2, 3] rfl)
        exact key_33 (120 - 0 + 1) 0 M_29 H_28 _ _ (by omega) hM_30 (by omega) hW hF hT2 hP hD hS (lv_sub hl [0, 1, 2] rfl)
      · have hz := rfl (a := 0)
        have n_63 : ¬ (v17_3 ≤ v2w12) := fun q => c_18 ((iLE (a := v17_3) (b := v2w12) (by omega) (by omega)).mpr q)
        refine lv_aload_n hx hb dX0_cutLoose_17 rfl (lv_at hl 1 rfl) ?_
        refine lv_iload_n hx hb dX0_cutLoose_18 rfl (lv_at hl 0 rfl) ?_
        have hPc : va_P D vwCl ([] ++ va_pl L M_14) H_15 := hP
        have hDc : va_D A ([] ++ va_pl L M_14) := hD
        have hFc : ∀ q, va_A ([] ++ va_pl L M_14) H_15.size q → A q := pg_free hDc hS hA
        refine va_callq (va_runV (As := [.int (nI v2w12)]) (rest := []) ⟨hx, hb, hml, hown, hg⟩ (s_X0_at l D cy K L M_14 H_15.size oa (nI v2w12)  hW ia) (cwV 1 hg (gV wd_201 wd_202 wd_203 wd_204 wd_205) rfl rfl rfl (by decide +kernel) ⟨(Nat.le_trans (Nat.le_of_ble_eq_true rfl) hRf), (Nat.le_trans (Nat.le_of_ble_eq_true rfl) hRl)⟩) ⟨PG.blind, pg_recv hK hP ia.1 hM17 rfl, fun U hU hW => ⟨rfl, PG.at hPc hK hDc hN hU hW⟩⟩ rfl rfl hl.1 rfl (lv_room (Nat.le_of_ble_eq_true rfl)) dX0_cutLoose_19 ⟨(Nat.le_trans (Nat.le_of_ble_eq_true rfl) hRc), (Nat.le_trans (Nat.le_of_ble_eq_true rfl) hRs)⟩) hS (fun q _ h => hFc q h) hFc (fun r_65 M_66 t H_64 locs ht hvm hw hB hz1 hk1 hS => ?_)
        have hp_67 := hw
        obtain ⟨hP1, hD1⟩ := hB
        rw [ht] at hP1
        have hP : va_P D vwCl ([] ++ va_pl L M_14) H_64 := hP1
        have hD : va_D A ([] ++ va_pl L M_14) := hD1.mono hFc
        rcases r_65 with _ | b_68
        · have hz := rfl (a := 0)
          refine lv_astore_nN (lv' := [(3, .null), (2, .int (nI v2w12)), (0, .ref oa), (1, .ref k1)]) hx hb dX0_cutLoose_22 rfl hl (by decide) rfl (fun ls hl => ?_)
          refine lv_aload_n hx hb dX0_cutLoose_23 rfl (lv_at hl 2 rfl) ?_
          refine pg_get (D := D) (ci := 0) (v := .ref v17_2) (C := RX0) (T := TX0) (N := 5) hx hb hg inG0 hown hK hP ia.1 hM17 rfl 2 (by decide) (hg _ wd_207) (fun _ h9 => h9) rfl dX0_cutLoose_24 ?_
          refine lv_null hx hb dX0_cutLoose_27 ?_
          refine lv_aload_nN hx hb dX0_cutLoose_28 rfl (lv_at hl 0 rfl) ?_
          refine lv_ifnonnullN hx hb dX0_cutLoose_29 ?_
          refine lv_lconst (v := 0) hx hb dX0_cutLoose_32 (by decide) ?_
          refine lv_goto (tgt := 41) hx hb dX0_cutLoose_33 (by decide) ?_
          obtain ⟨v69_0, v69_1, v69_2, v69_3, v69_4, v69_5, hM69, h69_0, h69_1, h69_2, h69_3, h69_4, h69_5⟩ := hW.open_7 h17_2
          have hPc : va_P D vwCl ([] ++ va_pl L M_14) H_64 := hP
          have hDc : va_D A ([] ++ va_pl L M_14) := hD
          have hFc : ∀ q, va_A ([] ++ va_pl L M_14) H_64.size q → A q := pg_free hDc hS hA
          refine va_callv (va_runV (As := [.null, .long 0]) (rest := []) ⟨hx, hb, hml, hown, hg⟩ (s_X7_add_n l D cy K L M_14 H_64.size v17_2 0  hW h17_2) (cwV 2 hg (gV wd_213 wd_214 wd_215 wd_148 wd_216) rfl rfl rfl (by decide +kernel) ⟨(Nat.le_trans (Nat.le_of_ble_eq_true rfl) hRf), (Nat.le_trans (Nat.le_of_ble_eq_true rfl) hRl)⟩) ⟨PG.blind, pg_recv hK hP h17_2.1 hM69 rfl, fun U hU hW => ⟨rfl, PG.at hPc hK hDc hN hU hW⟩⟩ rfl rfl hl.1 rfl (lv_room (Nat.le_of_ble_eq_true rfl)) dX0_cutLoose_41 ⟨(Nat.le_trans (Nat.le_of_ble_eq_true rfl) hRc), (Nat.le_trans (Nat.le_of_ble_eq_true rfl) hRs)⟩) hS (fun q _ h => hFc q h) hFc (fun M_72 t H_70 locs ht hvm hw hB hz1 hk1 hS => ?_)
          obtain ⟨hW, hF2, hp_73⟩ := hw
          obtain ⟨hP1, hD1⟩ := hB
          rw [ht] at hP1
          have hP : va_P D vwCl ([] ++ va_pl L M_72) H_70 := hP1
          have hD : va_D A ([] ++ va_pl L M_72) := hD1.mono hFc
          have hM_74 : M_72 k1 = .inr (2, [.int z0, .int z1, .int z2, .ref z3, .int (nI z4), .int (nI z5), .ref z6, .ref z7, .ref z8, .int (nI z9), .ref z10, .int (nI z11), .ref z12, .ref z13, .long z14, .int z15, .ref z16, .ref z17, .ref z18, .ref z19]) := (hF2.at ik1 (by decide)).trans hM_16
          have hM_75 : M_72 oa = .inr (0, [.ref v17_0, .ref v17_1, .ref v17_2, .int (nI v17_3), .long v17_4]) := (hF2.at ia (by decide)).trans hM17
          have hF : fr K L [2, 7, 8, 64, 68, 69, 70] M M_72 := hF.tr hF2 (by decide)
          have hT2 : fT 2 K L [14] M M_72 := hT2.frr hF2 (by decide)
          refine lv_iinc (v := (nI (v2w12 + 1))) (lv' := [(2, .int (nI (v2w12 + 1))), (3, .null), (0, .ref oa), (1, .ref k1)]) hx hb dX0_cutLoose_44 hl (k := 1) rfl (nI_1 v2w12) (by decide) rfl (fun ls hl => ?_)
          refine lv_goto (tgt := 9) hx hb dX0_cutLoose_47 (by decide) ?_
          exact ih_10 (v2w12 + 1) M_72 H_70 _ _ (by omega) hM_74 (by omega) hW hF hT2 hP hD hS (lv_sub hl [0, 2, 3] rfl)
        · have hb_76 := hp_67 b_68 rfl
          refine lv_astore_n (lv' := [(3, .ref b_68), (2, .int (nI v2w12)), (0, .ref oa), (1, .ref k1)]) hx hb dX0_cutLoose_22 rfl hl (by decide) rfl (fun ls hl => ?_)
          refine lv_aload_n hx hb dX0_cutLoose_23 rfl (lv_at hl 2 rfl) ?_
          refine pg_get (D := D) (ci := 0) (v := .ref v17_2) (C := RX0) (T := TX0) (N := 5) hx hb hg inG0 hown hK hP ia.1 hM17 rfl 2 (by decide) (hg _ wd_207) (fun _ h9 => h9) rfl dX0_cutLoose_24 ?_
          refine lv_null hx hb dX0_cutLoose_27 ?_
          refine lv_aload_n hx hb dX0_cutLoose_28 rfl (lv_at hl 0 rfl) ?_
          refine lv_ifnonnull (tgt := 36) hx hb dX0_cutLoose_29 (by decide) ?_
          refine lv_aload_n hx hb dX0_cutLoose_36 rfl (lv_at hl 0 rfl) ?_
          obtain ⟨v77_0, v77_1, v77_2, v77_3, v77_4, v77_5, hM77, h77_0, h77_1⟩ := hW.open_8 hb_76
          refine pg_get (D := D) (ci := 8) (v := .int v77_3) (C := RX8) (T := TX8) (N := 6) hx hb hg inG8 hown hK hP hb_76.1 hM77 rfl 3 (by decide) (hg _ wd_220) (fun _ h9 => h9) rfl dX0_cutLoose_37 ?_
          refine lv_i2l hx hb dX0_cutLoose_40 rfl ?_
          refine lv_topl (fun f_78 ef_78 => ?_)
          obtain ⟨v79_0, v79_1, v79_2, v79_3, v79_4, v79_5, hM79, h79_0, h79_1, h79_2, h79_3, h79_4, h79_5⟩ := hW.open_7 h17_2
          have hPc : va_P D vwCl ([] ++ va_pl L M_14) H_64 := hP
          have hDc : va_D A ([] ++ va_pl L M_14) := hD
          have hFc : ∀ q, va_A ([] ++ va_pl L M_14) H_64.size q → A q := pg_free hDc hS hA
          refine va_callv (va_runV (As := [.null, .long f_78]) (rest := []) ⟨hx, hb, hml, hown, hg⟩ (s_X7_add_n l D cy K L M_14 H_64.size v17_2 f_78  hW h17_2) (cwV 2 hg (gV wd_213 wd_214 wd_215 wd_148 wd_216) rfl rfl rfl (by decide +kernel) ⟨(Nat.le_trans (Nat.le_of_ble_eq_true rfl) hRf), (Nat.le_trans (Nat.le_of_ble_eq_true rfl) hRl)⟩) ⟨PG.blind, pg_recv hK hP h17_2.1 hM79 rfl, fun U hU hW => ⟨rfl, PG.at hPc hK hDc hN hU hW⟩⟩ rfl rfl hl.1 rfl (lv_room (Nat.le_of_ble_eq_true rfl)) dX0_cutLoose_41 ⟨(Nat.le_trans (Nat.le_of_ble_eq_true rfl) hRc), (Nat.le_trans (Nat.le_of_ble_eq_true rfl) hRs)⟩) hS (fun q _ h => hFc q h) hFc (fun M_82 t H_80 locs ht hvm hw hB hz1 hk1 hS => ?_)
          obtain ⟨hW, hF2, hp_83⟩ := hw
          obtain ⟨hP1, hD1⟩ := hB
          rw [ht] at hP1
          have hP : va_P D vwCl ([] ++ va_pl L M_82) H_80 := hP1
          have hD : va_D A ([] ++ va_pl L M_82) := hD1.mono hFc
          have hM_84 : M_82 k1 = .inr (2, [.int z0, .int z1, .int z2, .ref z3, .int (nI z4), .int (nI z5), .ref z6, .ref z7, .ref z8, .int (nI z9), .ref z10, .int (nI z11), .ref z12, .ref z13, .long z14, .int z15, .ref z16, .ref z17, .ref z18, .ref z19]) := (hF2.at ik1 (by decide)).trans hM_16
          have hM_85 : M_82 oa = .inr (0, [.ref v17_0, .ref v17_1, .ref v17_2, .int (nI v17_3), .long v17_4]) := (hF2.at ia (by decide)).trans hM17
          have hM_86 : M_82 b_68 = .inr (8, [.ref v77_0, .ref v77_1, .int v77_2, .int v77_3, .long v77_4, .long v77_5]) := (hF2.at hb_76 (by decide)).trans hM77
          have hF : fr K L [2, 7, 8, 64, 68, 69, 70] M M_82 := hF.tr hF2 (by decide)
          have hT2 : fT 2 K L [14] M M_82 := hT2.frr hF2 (by decide)
          refine lv_iinc (v := (nI (v2w12 + 1))) (lv' := [(2, .int (nI (v2w12 + 1))), (3, .ref b_68), (0, .ref oa), (1, .ref k1)]) hx hb dX0_cutLoose_44 hl (k := 1) rfl (nI_1 v2w12) (by decide) rfl (fun ls hl => ?_)
          refine lv_goto (tgt := 9) hx hb dX0_cutLoose_47 (by decide) ?_
          exact ih_10 (v2w12 + 1) M_82 H_80 _ _ (by omega) hM_84 (by omega) hW hF hT2 hP hD hS (lv_sub hl [0, 2, 3] rfl)
  exact key_9 (120 - 0 + 1) 0 M_5 H_3 _ _ (by omega) hM_7 (by omega) hW hF hT2 hP hD hS (lv_sub hl [0, 1, 2] rfl)
set_option maxHeartbeats 4000000 in
set_option maxRecDepth 100000 in
theorem s_closeYear (l : Launch) (D : va_G) (cy : Nat → ClassId) (K0 : Kp) (L0 : List Nat) (M0 : Hp) (sz : Nat) (oa : Nat) (k1 : Nat) (k2 : Int32) (z0 : Int32) (z1 : Int32) (z2 : Int32) (z3 : Nat) (z4 : Nat) (z5 : Nat) (z6 : Nat) (z7 : Nat) (z8 : Nat) (z9 : Nat) (z10 : Nat) (z11 : Nat) (z12 : Nat) (z13 : Nat) (z14 : Int64) (z15 : Int32) (z16 : Nat) (z17 : Nat) (z18 : Nat) (z19 : Nat) (hW : WOK cy K0 L0 M0) (ia : isk K0 L0 oa 0 0) (ik1 : isk K0 L0 k1 2 0) (hyc : z5 < 12) (hMz : M0 k1 = .inr (2, [.int z0, .int z1, .int z2, .ref z3, .int (nI z4), .int (nI z5), .ref z6, .ref z7, .ref z8, .int (nI z9), .ref z10, .int (nI z11), .ref z12, .ref z13, .long z14, .int z15, .ref z16, .ref z17, .ref z18, .ref z19])) (hz3 : isk K0 L0 z3 51 12) (hz4 : z4 ≤ 12) (hz5 : z5 ≤ 12) (hz6 : isk K0 L0 z6 52 6) (hz7 : isk K0 L0 z7 61 6) (hz8 : isk K0 L0 z8 62 24) (hz9 : z9 ≤ 24) (hz10 : isk K0 L0 z10 20 16) (hz11 : z11 ≤ 16) (hz12 : isk K0 L0 z12 18 1000) (hz13 : isk K0 L0 z13 67 1000) (hz16 : isk K0 L0 z16 1 0) (hz17 : isk K0 L0 z17 1 0) (hz18 : isk K0 L0 z18 10 0) (hz19 : isk K0 L0 z19 0 0) : Met l yX0_closeYear (wsM yX0_closeYear cX0_closeYear 3 none) ({ frames := 5, cells := 720, slots := 4320, locals := 134 }) (va_Pc [.ref oa, .ref k1, .int k2] (PG D cy [] L0 M0 sz)) (va_Qv (fun (u : Kp × List Nat × Hp) => ext K0 L0 u.1 u.2.1 ∧ WOK cy u.1 u.2.1 u.2.2 ∧ fr K0 L0 [0, 1, 2, 7, 8, 9, 10, 21, 56, 57, 63, 64, 65, 66, 67, 68, 69, 70, 71, 72] M0 u.2.2 ∧ fT 2 K0 L0 [2, 5, 14] M0 u.2.2 ∧ fT 9 K0 L0 [6, 9, 10, 11, 13, 14, 15] M0 u.2.2 ∧ fT 1 K0 L0 [3] M0 u.2.2 ∧ fT 10 K0 L0 [1, 2] M0 u.2.2 ∧ (True)) (fun u t => PQ D [] u.2.1 u.2.2 (va_A ([] ++ va_pl L0 M0) sz) t) (va_A ([] ++ va_pl L0 M0) sz)) 720 4320 (va_A ([] ++ va_pl L0 M0) sz) := by
  refine Met.ofW (cc := cX0_closeYear) (maxL := 3) (ret := none) (by decide) rfl ?_
  intro p e s m args below meth c s₁ B hml hv
  obtain ⟨rfl, hsz, hP, hK, hD0, hN⟩ := hv
  have hx := B.exec
  have hb := B.bytes
  have hr := B.returns
  have hts := atoms_spec (ws := (wsM yX0_closeYear cX0_closeYear 3 none)) B.pre
  have hg : ∀ w ∈ lw_good, w.before _ s = true := fun w h => hts w (List.mem_cons_of_mem _ h)
  have hown : s.vm.findClass RX0 = some m.cls := findClass_of_methodNamed B.named
  have hlocks := B.notSynchronized
  subst hsz
  have hD := hD0.self (sz := s.heap.size)
  generalize hAe : va_A ([] ++ va_pl L0 M0) s.heap.size = A at hD ⊢
  have hA : ∀ q : Nat, s.heap.size ≤ q → A q := fun q h => by rw [← hAe]; exact Or.inr h
  have hS : va_S A s.heap s.heap [] := va_S.rf
  have hl := lv_entry ([.ref oa, .ref k1, .int k2]) (n := 3) (Nat.le_of_ble_eq_true rfl)
  rw [lg_entry_eq]
  generalize (lg_sl ([.ref oa, .ref k1, .int k2]) ++ List.replicate (3 - (lg_sl ([.ref oa, .ref k1, .int k2])).length) Slot.unset).toArray = ls at hl ⊢
  refine W.nameQ (fun Q hQ => ?_)
  refine W.nameR (fun R hR => ?_)
  have hRf : 5 ≤ R.frames := by rw [hR]; exact Nat.le_of_ble_eq_true rfl
  have hRl : 134 ≤ R.locals := by rw [hR]; exact Nat.le_of_ble_eq_true rfl
  have hRc : 720 ≤ R.cells := by rw [hR]; exact Nat.le_of_ble_eq_true rfl
  have hRs : 4320 ≤ R.slots := by rw [hR]; exact Nat.le_of_ble_eq_true rfl
  obtain ⟨K, L, M, hX0, hF, hT2, hT9, hT1, hT10, hW, hP, hD, ia, ik1, hMz, hz3, hz6, hz7, hz8, hz10, hz12, hz13, hz16, hz17, hz18, hz19⟩ : ∃ (K : Kp) (L : List Nat) (M : Hp), ext K0 L0 K L ∧ fr K0 L0 [0, 1, 2, 7, 8, 9, 10, 21, 56, 57, 63, 64, 65, 66, 67, 68, 69, 70, 71, 72] M0 M ∧ fT 2 K0 L0 [2, 5, 14] M0 M ∧ fT 9 K0 L0 [6, 9, 10, 11, 13, 14, 15] M0 M ∧ fT 1 K0 L0 [3] M0 M ∧ fT 10 K0 L0 [1, 2] M0 M ∧ WOK cy K L M ∧ va_P D vwCl ([] ++ va_pl L M) s.heap ∧ va_D A ([] ++ va_pl L M) ∧ isk K L oa 0 0 ∧ isk K L k1 2 0 ∧ M k1 = .inr (2, [.int z0, .int z1, .int z2, .ref z3, .int (nI z4), .int (nI z5), .ref z6, .ref z7, .ref z8, .int (nI z9), .ref z10, .int (nI z11), .ref z12, .ref z13, .long z14, .int z15, .ref z16, .ref z17, .ref z18, .ref z19]) ∧ isk K L z3 51 12 ∧ isk K L z6 52 6 ∧ isk K L z7 61 6 ∧ isk K L z8 62 24 ∧ isk K L z10 20 16 ∧ isk K L z12 18 1000 ∧ isk K L z13 67 1000 ∧ isk K L z16 1 0 ∧ isk K L z17 1 0 ∧ isk K L z18 10 0 ∧ isk K L z19 0 0 := ⟨K0, L0, M0, ext.rf, fr.rf, fT.rf, fT.rf, fT.rf, fT.rf, hW, hP, hD, ia, ik1, hMz, hz3, hz6, hz7, hz8, hz10, hz12, hz13, hz16, hz17, hz18, hz19⟩
  have hl : lv_has ls 3 [(0, .ref oa), (1, .ref k1), (2, .int k2)] := hl
  refine lv_aload_n hx hb dX0_closeYear_0 rfl (lv_at hl 0 rfl) ?_
  refine lv_iconst (v := 0) hx hb dX0_closeYear_1 (by decide) ?_
  obtain ⟨v2_0, v2_1, v2_2, v2_3, v2_4, hM2, h2_0, h2_1, h2_2, h2_3⟩ := hW.open_0 ia
  refine pg_put (D := D) (ci := 0) (v := .int 0) (ty := .int) (C := RX0) (T := TX0) (N := 5) hx hb hg inG0 tyX0 tyX0_ok nmX0 hown hK hP hD hS ia.1 hM2 rfl 3 (by decide) (hg _ wd_199) (fun _ h9 => h9) rfl (by decide +kernel) rfl rfl (Nat.le_of_ble_eq_true rfl) dX0_closeYear_2 (fun H_1 locs hP hD hS => ?_)
  obtain ⟨M_3, eM_3⟩ : ∃ M1 : Hp, M1 = va_up M oa (.inr (0, [.ref v2_0, .ref v2_1, .ref v2_2, .int (nI 0), .long v2_4])) := ⟨_, rfl⟩
  have hP : va_P D vwCl ([] ++ va_pl L M_3) H_1 := by rw [eM_3]; exact hP
  have hD : va_D A ([] ++ va_pl L M_3) := by rw [eM_3]; exact hD
  have hW : WOK cy K L M_3 := by rw [eM_3]; exact hW.up_0 ia ⟨v2_0, v2_1, v2_2, 0, v2_4, rfl, h2_0, h2_1, h2_2, (by omega)⟩
  have hF : fr K0 L0 [0, 1, 2, 7, 8, 9, 10, 21, 56, 57, 63, 64, 65, 66, 67, 68, 69, 70, 71, 72] M0 M_3 := by rw [eM_3]; exact hF.upX hX0 ia (by decide)
  have hT2 : fT 2 K0 L0 [2, 5, 14] M0 M_3 := by rw [eM_3]; exact hT2.neX hX0 ia (by decide)
  have hT9 : fT 9 K0 L0 [6, 9, 10, 11, 13, 14, 15] M0 M_3 := by rw [eM_3]; exact hT9.neX hX0 ia (by decide)
  have hT1 : fT 1 K0 L0 [3] M0 M_3 := by rw [eM_3]; exact hT1.neX hX0 ia (by decide)
  have hT10 : fT 10 K0 L0 [1, 2] M0 M_3 := by rw [eM_3]; exact hT10.neX hX0 ia (by decide)
  have hM_4 : M_3 oa = .inr (0, [.ref v2_0, .ref v2_1, .ref v2_2, .int (nI 0), .long v2_4]) := by rw [eM_3]; exact va_up_self _ _ _
  have hM_5 : M_3 k1 = .inr (2, [.int z0, .int z1, .int z2, .ref z3, .int (nI z4), .int (nI z5), .ref z6, .ref z7, .ref z8, .int (nI z9), .ref z10, .int (nI z11), .ref z12, .ref z13, .long z14, .int z15, .ref z16, .ref z17, .ref z18, .ref z19]) := by rw [eM_3, va_up_ne _ _ (ik1.neT ia (by decide))]; exact hMz
  have hb_6 : 0 ≤ 120 := by omega
  refine lv_aload_n hx hb dX0_closeYear_5 rfl (lv_at hl 0 rfl) ?_
  refine lv_aload_n hx hb dX0_closeYear_6 rfl (lv_at hl 1 rfl) ?_
  refine lv_iload_n hx hb dX0_closeYear_7 rfl (lv_at hl 2 rfl) ?_
  have hPc : va_P D vwCl ([] ++ va_pl L M_3) H_1 := hP
  have hDc : va_D A ([] ++ va_pl L M_3) := hD
  have hFc : ∀ q, va_A ([] ++ va_pl L M_3) H_1.size q → A q := pg_free hDc hS hA
  refine va_callv (va_runV (As := [.ref k1, .int k2]) (rest := []) ⟨hx, hb, hml, hown, hg⟩ (s_partDays l D cy K L M_3 H_1.size oa k1 k2 v2_0 v2_1 v2_2 0 v2_4 hW ia ik1 hM_4 h2_0 h2_1 h2_2 hb_6) (cwV 2 hg (gV wd_641 wd_642 wd_643 wd_204 wd_644) rfl rfl rfl (by decide +kernel) ⟨(Nat.le_trans (Nat.le_of_ble_eq_true rfl) hRf), (Nat.le_trans (Nat.le_of_ble_eq_true rfl) hRl)⟩) ⟨PG.blind, pg_recv hK hP ia.1 hM_4 rfl, fun U hU hW => ⟨rfl, PG.at hPc hK hDc hN hU hW⟩⟩ rfl rfl hl.1 rfl (lv_room (Nat.le_of_ble_eq_true rfl)) dX0_closeYear_8 ⟨(Nat.le_trans (Nat.le_of_ble_eq_true rfl) hRc), (Nat.le_trans (Nat.le_of_ble_eq_true rfl) hRs)⟩) hS (fun q _ h => hFc q h) hFc (fun M_9 t H_7 locs ht hvm hw hB hz1 hk1 hS => ?_)
  obtain ⟨K9, L9, M_9m⟩ := M_9
  dsimp only at hw hB
  obtain ⟨hx9, hW, hF2, hp_10⟩ := hw
  obtain ⟨hP1, hD1⟩ := hB
  rw [ht] at hP1
  have hP : va_P D vwCl ([] ++ va_pl L9 M_9m) H_7 := hP1
  have hD : va_D A ([] ++ va_pl L9 M_9m) := hD1.mono hFc
  have hM_11 : M_9m k1 = .inr (2, [.int z0, .int z1, .int z2, .ref z3, .int (nI z4), .int (nI z5), .ref z6, .ref z7, .ref z8, .int (nI z9), .ref z10, .int (nI z11), .ref z12, .ref z13, .long z14, .int z15, .ref z16, .ref z17, .ref z18, .ref z19]) := (hF2.at ik1 (by decide)).trans hM_5
  have hF : fr K0 L0 [0, 1, 2, 7, 8, 9, 10, 21, 56, 57, 63, 64, 65, 66, 67, 68, 69, 70, 71, 72] M0 M_9m := hF.trX hX0 hF2 (by decide)
  have hT2 : fT 2 K0 L0 [2, 5, 14] M0 M_9m := hT2.frrX hX0 hF2 (by decide)
  have hT9 : fT 9 K0 L0 [6, 9, 10, 11, 13, 14, 15] M0 M_9m := hT9.frrX hX0 hF2 (by decide)
  have hT1 : fT 1 K0 L0 [3] M0 M_9m := hT1.frrX hX0 hF2 (by decide)
  have hT10 : fT 10 K0 L0 [1, 2] M0 M_9m := hT10.frrX hX0 hF2 (by decide)
  have hX0 := hX0.tr hx9
  have i_12 := ia.ext hx9
  have i_13 := ik1.ext hx9
  have i_14 := hz3.ext hx9
  have i_15 := hz6.ext hx9
  have i_16 := hz7.ext hx9
  have i_17 := hz8.ext hx9
  have i_18 := hz10.ext hx9
  have i_19 := hz12.ext hx9
  have i_20 := hz13.ext hx9
  have i_21 := hz16.ext hx9
  have i_22 := hz17.ext hx9
  have i_23 := hz18.ext hx9
  have i_24 := hz19.ext hx9
  obtain ⟨K, L, hK9, hL9⟩ : ∃ (K : Kp) (L : List Nat), K = K9 ∧ L = L9 := ⟨_, _, rfl, rfl⟩
  subst hK9
  subst hL9
  refine W.widen (k := 360) (n := 2160) (Nat.le_of_ble_eq_true rfl) (Nat.le_of_ble_eq_true rfl) ?_
  refine lv_aload_n hx hb dX0_closeYear_11 rfl (lv_at hl 0 rfl) ?_
  refine lv_aload_n hx hb dX0_closeYear_12 rfl (lv_at hl 1 rfl) ?_
  obtain ⟨v25_0, v25_1, v25_2, v25_3, v25_4, hM25, h25_0, h25_1, h25_2, h25_3⟩ := hW.open_0 i_12
  have hPc : va_P D vwCl ([] ++ va_pl L M_9m) H_7 := hP
  have hDc : va_D A ([] ++ va_pl L M_9m) := hD
  have hFc : ∀ q, va_A ([] ++ va_pl L M_9m) H_7.size q → A q := pg_free hDc hS hA
  refine va_callv (va_runV (As := [.ref k1]) (rest := []) ⟨hx, hb, hml, hown, hg⟩ (s_cutLoose_x l D cy K L M_9m H_7.size oa k1 z0 z1 z2 z3 z4 z5 z6 z7 z8 z9 z10 z11 z12 z13 z14 z15 z16 z17 z18 z19 hW i_12 i_13 hM_11 i_14 hz4 hz5 i_15 i_16 i_17 hz9 i_18 hz11 i_19 i_20 i_21 i_22 i_23 i_24) (cwV 1 hg (gV wd_645 wd_646 wd_647 wd_204 wd_648) rfl rfl rfl (by decide +kernel) ⟨(Nat.le_trans (Nat.le_of_ble_eq_true rfl) hRf), (Nat.le_trans (Nat.le_of_ble_eq_true rfl) hRl)⟩) ⟨PG.blind, pg_recv hK hP i_12.1 hM25 rfl, fun U hU hW => ⟨rfl, PG.at hPc hK hDc hN hU hW⟩⟩ rfl rfl hl.1 rfl (lv_room (Nat.le_of_ble_eq_true rfl)) dX0_closeYear_13 ⟨(Nat.le_trans (Nat.le_of_ble_eq_true rfl) hRc), (Nat.le_trans (Nat.le_of_ble_eq_true rfl) hRs)⟩) hS (fun q _ h => hFc q h) hFc (fun M_28 t H_26 locs ht hvm hw hB hz1 hk1 hS => ?_)
  obtain ⟨hW, hF2, gT2, hM_30, hp_29⟩ := hw
  obtain ⟨hP1, hD1⟩ := hB
  rw [ht] at hP1
  have hP : va_P D vwCl ([] ++ va_pl L M_28) H_26 := hP1
  have hD : va_D A ([] ++ va_pl L M_28) := hD1.mono hFc
  have hM_31 : M_28 oa = .inr (0, [.ref v25_0, .ref v25_1, .ref v25_2, .int (nI v25_3), .long v25_4]) := (hF2.at i_12 (by decide)).trans hM25
  have hF : fr K0 L0 [0, 1, 2, 7, 8, 9, 10, 21, 56, 57, 63, 64, 65, 66, 67, 68, 69, 70, 71, 72] M0 M_28 := hF.trX hX0 hF2 (by decide)
  have hT2 : fT 2 K0 L0 [2, 5, 14] M0 M_28 := hT2.trX hX0 gT2 (by decide)
  have hT9 : fT 9 K0 L0 [6, 9, 10, 11, 13, 14, 15] M0 M_28 := hT9.frrX hX0 hF2 (by decide)
  have hT1 : fT 1 K0 L0 [3] M0 M_28 := hT1.frrX hX0 hF2 (by decide)
  have hT10 : fT 10 K0 L0 [1, 2] M0 M_28 := hT10.frrX hX0 hF2 (by decide)
  refine lv_aload_n hx hb dX0_closeYear_16 rfl (lv_at hl 0 rfl) ?_
  refine lv_aload_n hx hb dX0_closeYear_17 rfl (lv_at hl 1 rfl) ?_
  have hPc : va_P D vwCl ([] ++ va_pl L M_28) H_26 := hP
  have hDc : va_D A ([] ++ va_pl L M_28) := hD
  have hFc : ∀ q, va_A ([] ++ va_pl L M_28) H_26.size q → A q := pg_free hDc hS hA
  refine va_callv (va_runV (As := [.ref k1]) (rest := []) ⟨hx, hb, hml, hown, hg⟩ (s_X0_settleStretches l D cy K L M_28 H_26.size oa k1  hW i_12 i_13) (cwV 1 hg (gV wd_649 wd_650 wd_651 wd_204 wd_652) rfl rfl rfl (by decide +kernel) ⟨(Nat.le_trans (Nat.le_of_ble_eq_true rfl) hRf), (Nat.le_trans (Nat.le_of_ble_eq_true rfl) hRl)⟩) ⟨PG.blind, pg_recv hK hP i_12.1 hM_31 rfl, fun U hU hW => ⟨rfl, PG.at hPc hK hDc hN hU hW⟩⟩ rfl rfl hl.1 rfl (lv_room (Nat.le_of_ble_eq_true rfl)) dX0_closeYear_18 ⟨(Nat.le_trans (Nat.le_of_ble_eq_true rfl) hRc), (Nat.le_trans (Nat.le_of_ble_eq_true rfl) hRs)⟩) hS (fun q _ h => hFc q h) hFc (fun M_34 t H_32 locs ht hvm hw hB hz1 hk1 hS => ?_)
  obtain ⟨hW, hF2, gT9, hp_35⟩ := hw
  obtain ⟨hP1, hD1⟩ := hB
  rw [ht] at hP1
  have hP : va_P D vwCl ([] ++ va_pl L M_34) H_32 := hP1
  have hD : va_D A ([] ++ va_pl L M_34) := hD1.mono hFc
  have hM_36 : M_34 oa = .inr (0, [.ref v25_0, .ref v25_1, .ref v25_2, .int (nI v25_3), .long v25_4]) := (hF2.at i_12 (by decide)).trans hM_31
  have hM_37 : M_34 k1 = .inr (2, [.int z0, .int z1, .int z2, .ref z3, .int (nI z4), .int (nI z5), .ref z6, .ref z7, .ref z8, .int (nI z9), .ref z10, .int (nI z11), .ref z12, .ref z13, .long 0, .int z15, .ref z16, .ref z17, .ref z18, .ref z19]) := (hF2.at i_13 (by decide)).trans hM_30
  have hF : fr K0 L0 [0, 1, 2, 7, 8, 9, 10, 21, 56, 57, 63, 64, 65, 66, 67, 68, 69, 70, 71, 72] M0 M_34 := hF.trX hX0 hF2 (by decide)
  have hT2 : fT 2 K0 L0 [2, 5, 14] M0 M_34 := hT2.frrX hX0 hF2 (by decide)
  have hT9 : fT 9 K0 L0 [6, 9, 10, 11, 13, 14, 15] M0 M_34 := hT9.trX hX0 gT9 (by decide)
  have hT1 : fT 1 K0 L0 [3] M0 M_34 := hT1.frrX hX0 hF2 (by decide)
  have hT10 : fT 10 K0 L0 [1, 2] M0 M_34 := hT10.frrX hX0 hF2 (by decide)
  refine lv_aload_n hx hb dX0_closeYear_21 rfl (lv_at hl 0 rfl) ?_
  refine lv_aload_n hx hb dX0_closeYear_22 rfl (lv_at hl 1 rfl) ?_
  have hPc : va_P D vwCl ([] ++ va_pl L M_34) H_32 := hP
  have hDc : va_D A ([] ++ va_pl L M_34) := hD
  have hFc : ∀ q, va_A ([] ++ va_pl L M_34) H_32.size q → A q := pg_free hDc hS hA
  refine va_callv (va_runV (As := [.ref k1]) (rest := []) ⟨hx, hb, hml, hown, hg⟩ (s_settleMends l D cy K L M_34 H_32.size oa k1 v25_0 v25_1 v25_2 v25_3 v25_4 hW i_12 i_13 hM_36 h25_0 h25_1 h25_2 h25_3) (cwV 1 hg (gV wd_653 wd_654 wd_655 wd_204 wd_656) rfl rfl rfl (by decide +kernel) ⟨(Nat.le_trans (Nat.le_of_ble_eq_true rfl) hRf), (Nat.le_trans (Nat.le_of_ble_eq_true rfl) hRl)⟩) ⟨PG.blind, pg_recv hK hP i_12.1 hM_36 rfl, fun U hU hW => ⟨rfl, PG.at hPc hK hDc hN hU hW⟩⟩ rfl rfl hl.1 rfl (lv_room (Nat.le_of_ble_eq_true rfl)) dX0_closeYear_23 ⟨(Nat.le_trans (Nat.le_of_ble_eq_true rfl) hRc), (Nat.le_trans (Nat.le_of_ble_eq_true rfl) hRs)⟩) hS (fun q _ h => hFc q h) hFc (fun M_40 t H_38 locs ht hvm hw hB hz1 hk1 hS => ?_)
  obtain ⟨K9, L9, M_40m⟩ := M_40
  dsimp only at hw hB
  obtain ⟨hx9, hW, hF2, gT9, hp_41⟩ := hw
  obtain ⟨hP1, hD1⟩ := hB
  rw [ht] at hP1
  have hP : va_P D vwCl ([] ++ va_pl L9 M_40m) H_38 := hP1
  have hD : va_D A ([] ++ va_pl L9 M_40m) := hD1.mono hFc
  have hM_42 : M_40m k1 = .inr (2, [.int z0, .int z1, .int z2, .ref z3, .int (nI z4), .int (nI z5), .ref z6, .ref z7, .ref z8, .int (nI z9), .ref z10, .int (nI z11), .ref z12, .ref z13, .long 0, .int z15, .ref z16, .ref z17, .ref z18, .ref z19]) := (hF2.at i_13 (by decide)).trans hM_37
  have hF : fr K0 L0 [0, 1, 2, 7, 8, 9, 10, 21, 56, 57, 63, 64, 65, 66, 67, 68, 69, 70, 71, 72] M0 M_40m := hF.trX hX0 hF2 (by decide)
  have hT2 : fT 2 K0 L0 [2, 5, 14] M0 M_40m := hT2.frrX hX0 hF2 (by decide)
  have hT9 : fT 9 K0 L0 [6, 9, 10, 11, 13, 14, 15] M0 M_40m := hT9.trX hX0 gT9 (by decide)
  have hT1 : fT 1 K0 L0 [3] M0 M_40m := hT1.frrX hX0 hF2 (by decide)
  have hT10 : fT 10 K0 L0 [1, 2] M0 M_40m := hT10.frrX hX0 hF2 (by decide)
  have hX0 := hX0.tr hx9
  have i_43 := i_12.ext hx9
  have i_44 := i_13.ext hx9
  have i_45 := i_14.ext hx9
  have i_46 := i_15.ext hx9
  have i_47 := i_16.ext hx9
  have i_48 := i_17.ext hx9
  have i_49 := i_18.ext hx9
  have i_50 := i_19.ext hx9
  have i_51 := i_20.ext hx9
  have i_52 := i_21.ext hx9
  have i_53 := i_22.ext hx9
  have i_54 := i_23.ext hx9
  have i_55 := i_24.ext hx9
  obtain ⟨K, L, hK9, hL9⟩ : ∃ (K : Kp) (L : List Nat), K = K9 ∧ L = L9 := ⟨_, _, rfl, rfl⟩
  subst hK9
  subst hL9
  refine W.widen (k := 720) (n := 4320) (Nat.le_of_ble_eq_true rfl) (Nat.le_of_ble_eq_true rfl) ?_
  refine lv_aload_n hx hb dX0_closeYear_26 rfl (lv_at hl 0 rfl) ?_
  refine lv_aload_n hx hb dX0_closeYear_27 rfl (lv_at hl 1 rfl) ?_
  obtain ⟨v56_0, v56_1, v56_2, v56_3, v56_4, hM56, h56_0, h56_1, h56_2, h56_3⟩ := hW.open_0 i_43
  have hPc : va_P D vwCl ([] ++ va_pl L M_40m) H_38 := hP
  have hDc : va_D A ([] ++ va_pl L M_40m) := hD
  have hFc : ∀ q, va_A ([] ++ va_pl L M_40m) H_38.size q → A q := pg_free hDc hS hA
  refine va_callv (va_runV (As := [.ref k1]) (rest := []) ⟨hx, hb, hml, hown, hg⟩ (s_X0_bookDues l D cy K L M_40m H_38.size oa k1  hW i_43 i_44) (cwV 1 hg (gV wd_657 wd_658 wd_659 wd_204 wd_660) rfl rfl rfl (by decide +kernel) ⟨(Nat.le_trans (Nat.le_of_ble_eq_true rfl) hRf), (Nat.le_trans (Nat.le_of_ble_eq_true rfl) hRl)⟩) ⟨PG.blind, pg_recv hK hP i_43.1 hM56 rfl, fun U hU hW => ⟨rfl, PG.at hPc hK hDc hN hU hW⟩⟩ rfl rfl hl.1 rfl (lv_room (Nat.le_of_ble_eq_true rfl)) dX0_closeYear_28 ⟨(Nat.le_trans (Nat.le_of_ble_eq_true rfl) hRc), (Nat.le_trans (Nat.le_of_ble_eq_true rfl) hRs)⟩) hS (fun q _ h => hFc q h) hFc (fun M_59 t H_57 locs ht hvm hw hB hz1 hk1 hS => ?_)
  obtain ⟨hW, hF2, gT9, hp_60⟩ := hw
  obtain ⟨hP1, hD1⟩ := hB
  rw [ht] at hP1
  have hP : va_P D vwCl ([] ++ va_pl L M_59) H_57 := hP1
  have hD : va_D A ([] ++ va_pl L M_59) := hD1.mono hFc
  have hM_61 : M_59 k1 = .inr (2, [.int z0, .int z1, .int z2, .ref z3, .int (nI z4), .int (nI z5), .ref z6, .ref z7, .ref z8, .int (nI z9), .ref z10, .int (nI z11), .ref z12, .ref z13, .long 0, .int z15, .ref z16, .ref z17, .ref z18, .ref z19]) := (hF2.at i_44 (by decide)).trans hM_42
  have hM_62 : M_59 oa = .inr (0, [.ref v56_0, .ref v56_1, .ref v56_2, .int (nI v56_3), .long v56_4]) := (hF2.at i_43 (by decide)).trans hM56
  have hF : fr K0 L0 [0, 1, 2, 7, 8, 9, 10, 21, 56, 57, 63, 64, 65, 66, 67, 68, 69, 70, 71, 72] M0 M_59 := hF.trX hX0 hF2 (by decide)
  have hT2 : fT 2 K0 L0 [2, 5, 14] M0 M_59 := hT2.frrX hX0 hF2 (by decide)
  have hT9 : fT 9 K0 L0 [6, 9, 10, 11, 13, 14, 15] M0 M_59 := hT9.trX hX0 gT9 (by decide)
  have hT1 : fT 1 K0 L0 [3] M0 M_59 := hT1.frrX hX0 hF2 (by decide)
  have hT10 : fT 10 K0 L0 [1, 2] M0 M_59 := hT10.frrX hX0 hF2 (by decide)
  refine lv_aload_n hx hb dX0_closeYear_31 rfl (lv_at hl 0 rfl) ?_
  refine lv_dup hx hb dX0_closeYear_32 rfl ?_
  refine pg_get (D := D) (ci := 0) (v := .long v56_4) (C := RX0) (T := TX0) (N := 5) hx hb hg inG0 hown hK hP i_43.1 hM_62 rfl 4 (by decide) (hg _ wd_661) (fun _ h9 => h9) rfl dX0_closeYear_33 ?_
  refine lv_aload_n hx hb dX0_closeYear_36 rfl (lv_at hl 0 rfl) ?_
  have hPc : va_P D vwCl ([] ++ va_pl L M_59) H_57 := hP
  have hDc : va_D A ([] ++ va_pl L M_59) := hD
  have hFc : ∀ q, va_A ([] ++ va_pl L M_59) H_57.size q → A q := pg_free hDc hS hA
  refine va_calll (va_runV (As := []) (rest := [.long v56_4, .ref oa]) ⟨hx, hb, hml, hown, hg⟩ (s_X0_nobodyOfLatest l D cy K L M_59 H_57.size oa  hW i_43) (cwV 0 hg (gV wd_662 wd_520 wd_521 wd_204 wd_522) rfl rfl rfl (by decide +kernel) ⟨(Nat.le_trans (Nat.le_of_ble_eq_true rfl) hRf), (Nat.le_trans (Nat.le_of_ble_eq_true rfl) hRl)⟩) ⟨PG.blind, pg_recv hK hP i_43.1 hM_62 rfl, fun U hU hW => ⟨rfl, PG.at hPc hK hDc hN hU hW⟩⟩ rfl rfl hl.1 rfl (lv_room (Nat.le_of_ble_eq_true rfl)) dX0_closeYear_37 ⟨(Nat.le_trans (Nat.le_of_ble_eq_true rfl) hRc), (Nat.le_trans (Nat.le_of_ble_eq_true rfl) hRs)⟩) hS (fun q _ h => hFc q h) hFc (fun r_64 M_65 t H_63 locs ht hvm hw hB hz1 hk1 hS => ?_)
  have hp_66 := hw
  obtain ⟨hP1, hD1⟩ := hB
  rw [ht] at hP1
  have hP : va_P D vwCl ([] ++ va_pl L M_59) H_63 := hP1
  have hD : va_D A ([] ++ va_pl L M_59) := hD1.mono hFc
  refine lv_ladd hx hb dX0_closeYear_40 ?_
  refine lv_topl (fun f_67 ef_67 => ?_)
  refine pg_put (D := D) (ci := 0) (v := .long f_67) (ty := .long) (C := RX0) (T := TX0) (N := 5) hx hb hg inG0 tyX0 tyX0_ok nmX0 hown hK hP hD hS i_43.1 hM_62 rfl 4 (by decide) (hg _ wd_661) (fun _ h9 => h9) rfl (by decide +kernel) rfl rfl (Nat.le_of_ble_eq_true rfl) dX0_closeYear_41 (fun H_68 locs hP hD hS => ?_)
  obtain ⟨M_69, eM_69⟩ : ∃ M1 : Hp, M1 = va_up M_59 oa (.inr (0, [.ref v56_0, .ref v56_1, .ref v56_2, .int (nI v56_3), .long f_67])) := ⟨_, rfl⟩
  have hP : va_P D vwCl ([] ++ va_pl L M_69) H_68 := by rw [eM_69]; exact hP
  have hD : va_D A ([] ++ va_pl L M_69) := by rw [eM_69]; exact hD
  have hW : WOK cy K L M_69 := by rw [eM_69]; exact hW.up_0 i_43 ⟨v56_0, v56_1, v56_2, v56_3, f_67, rfl, h56_0, h56_1, h56_2, h56_3⟩
  have hF : fr K0 L0 [0, 1, 2, 7, 8, 9, 10, 21, 56, 57, 63, 64, 65, 66, 67, 68, 69, 70, 71, 72] M0 M_69 := by rw [eM_69]; exact hF.upX hX0 i_43 (by decide)
  have hT2 : fT 2 K0 L0 [2, 5, 14] M0 M_69 := by rw [eM_69]; exact hT2.neX hX0 i_43 (by decide)
  have hT9 : fT 9 K0 L0 [6, 9, 10, 11, 13, 14, 15] M0 M_69 := by rw [eM_69]; exact hT9.neX hX0 i_43 (by decide)
  have hT1 : fT 1 K0 L0 [3] M0 M_69 := by rw [eM_69]; exact hT1.neX hX0 i_43 (by decide)
  have hT10 : fT 10 K0 L0 [1, 2] M0 M_69 := by rw [eM_69]; exact hT10.neX hX0 i_43 (by decide)
  have hM_70 : M_69 oa = .inr (0, [.ref v56_0, .ref v56_1, .ref v56_2, .int (nI v56_3), .long f_67]) := by rw [eM_69]; exact va_up_self _ _ _
  have hM_71 : M_69 k1 = .inr (2, [.int z0, .int z1, .int z2, .ref z3, .int (nI z4), .int (nI z5), .ref z6, .ref z7, .ref z8, .int (nI z9), .ref z10, .int (nI z11), .ref z12, .ref z13, .long 0, .int z15, .ref z16, .ref z17, .ref z18, .ref z19]) := by rw [eM_69, va_up_ne _ _ (i_44.neT i_43 (by decide))]; exact hM_61
  refine lv_aload_n hx hb dX0_closeYear_44 rfl (lv_at hl 1 rfl) ?_
  refine pg_get (D := D) (ci := 2) (v := .ref z16) (C := RX2) (T := TX2) (N := 20) hx hb hg inG2 hown hK hP i_44.1 hM_71 rfl 16 (by decide) (hg _ wd_232) (fun _ h9 => h9) rfl dX0_closeYear_45 ?_
  refine lv_iload_n hx hb dX0_closeYear_48 rfl (lv_at hl 2 rfl) ?_
  obtain ⟨n72, v72_0, v72_1, v72_2, v72_3, hM72, h72_0, h72_1, h72_2, h72_3, y72_0⟩ := hW.open_1 i_52
  have hPc : va_P D vwCl ([] ++ va_pl L M_69) H_68 := hP
  have hDc : va_D A ([] ++ va_pl L M_69) := hD
  have hFc : ∀ q, va_A ([] ++ va_pl L M_69) H_68.size q → A q := pg_free hDc hS hA
  refine va_callv (va_runV (As := [.int k2]) (rest := []) ⟨hx, hb, hml, hown, hg⟩ (s_X1_bookUpTo l D cy K L M_69 H_68.size z16 k2  hW i_52) (cwV 1 hg (gV wd_663 wd_664 wd_665 wd_123 wd_666) rfl rfl rfl (by decide +kernel) ⟨(Nat.le_trans (Nat.le_of_ble_eq_true rfl) hRf), (Nat.le_trans (Nat.le_of_ble_eq_true rfl) hRl)⟩) ⟨PG.blind, pg_recv hK hP i_52.1 hM72 rfl, fun U hU hW => ⟨rfl, PG.at hPc hK hDc hN hU hW⟩⟩ rfl rfl hl.1 rfl (lv_room (Nat.le_of_ble_eq_true rfl)) dX0_closeYear_49 ⟨(Nat.le_trans (Nat.le_of_ble_eq_true rfl) hRc), (Nat.le_trans (Nat.le_of_ble_eq_true rfl) hRs)⟩) hS (fun q _ h => hFc q h) hFc (fun M_75 t H_73 locs ht hvm hw hB hz1 hk1 hS => ?_)
  obtain ⟨hW, hF2, gT9, gT1, hp_76⟩ := hw
  obtain ⟨hP1, hD1⟩ := hB
  rw [ht] at hP1
  have hP : va_P D vwCl ([] ++ va_pl L M_75) H_73 := hP1
  have hD : va_D A ([] ++ va_pl L M_75) := hD1.mono hFc
  have hM_77 : M_75 oa = .inr (0, [.ref v56_0, .ref v56_1, .ref v56_2, .int (nI v56_3), .long f_67]) := (hF2.at i_43 (by decide)).trans hM_70
  have hM_78 : M_75 k1 = .inr (2, [.int z0, .int z1, .int z2, .ref z3, .int (nI z4), .int (nI z5), .ref z6, .ref z7, .ref z8, .int (nI z9), .ref z10, .int (nI z11), .ref z12, .ref z13, .long 0, .int z15, .ref z16, .ref z17, .ref z18, .ref z19]) := (hF2.at i_44 (by decide)).trans hM_71
  have hF : fr K0 L0 [0, 1, 2, 7, 8, 9, 10, 21, 56, 57, 63, 64, 65, 66, 67, 68, 69, 70, 71, 72] M0 M_75 := hF.trX hX0 hF2 (by decide)
  have hT2 : fT 2 K0 L0 [2, 5, 14] M0 M_75 := hT2.frrX hX0 hF2 (by decide)
  have hT9 : fT 9 K0 L0 [6, 9, 10, 11, 13, 14, 15] M0 M_75 := hT9.trX hX0 gT9 (by decide)
  have hT1 : fT 1 K0 L0 [3] M0 M_75 := hT1.trX hX0 gT1 (by decide)
  have hT10 : fT 10 K0 L0 [1, 2] M0 M_75 := hT10.frrX hX0 hF2 (by decide)
  refine lv_aload_n hx hb dX0_closeYear_52 rfl (lv_at hl 1 rfl) ?_
  refine pg_get (D := D) (ci := 2) (v := .ref z17) (C := RX2) (T := TX2) (N := 20) hx hb hg inG2 hown hK hP i_44.1 hM_78 rfl 17 (by decide) (hg _ wd_640) (fun _ h9 => h9) rfl dX0_closeYear_53 ?_
  refine lv_iconst (v := 0) hx hb dX0_closeYear_56 (by decide) ?_
  obtain ⟨n80, v80_0, v80_1, v80_2, v80_3, hM80, h80_0, h80_1, h80_2, h80_3, y80_0⟩ := hW.open_1 i_53
  refine pg_put (D := D) (ci := 1) (v := .int 0) (ty := .int) (C := RX1) (T := TX1) (N := 4) hx hb hg inG1 tyX1 tyX1_ok nmX1 hown hK hP hD hS i_53.1 hM80 rfl 3 (by decide) (hg _ wd_225) (fun _ h9 => h9) rfl (by decide +kernel) rfl rfl (Nat.le_of_ble_eq_true rfl) dX0_closeYear_57 (fun H_79 locs hP hD hS => ?_)
  obtain ⟨M_81, eM_81⟩ : ∃ M1 : Hp, M1 = va_up M_75 z17 (.inr (1, [.ref v80_0, .ref v80_1, .ref v80_2, .int (nI 0)])) := ⟨_, rfl⟩
  have hP : va_P D vwCl ([] ++ va_pl L M_81) H_79 := by rw [eM_81]; exact hP
  have hD : va_D A ([] ++ va_pl L M_81) := by rw [eM_81]; exact hD
  have hW : WOK cy K L M_81 := by rw [eM_81]; exact hW.up_1 i_53 ⟨n80, v80_0, v80_1, v80_2, 0, rfl, h80_0, h80_1, h80_2, (by omega), y80_0⟩
  have hF : fr K0 L0 [0, 1, 2, 7, 8, 9, 10, 21, 56, 57, 63, 64, 65, 66, 67, 68, 69, 70, 71, 72] M0 M_81 := by rw [eM_81]; exact hF.upX hX0 i_53 (by decide)
  have hT2 : fT 2 K0 L0 [2, 5, 14] M0 M_81 := by rw [eM_81]; exact hT2.neX hX0 i_53 (by decide)
  have hT9 : fT 9 K0 L0 [6, 9, 10, 11, 13, 14, 15] M0 M_81 := by rw [eM_81]; exact hT9.neX hX0 i_53 (by decide)
  have hT1 : fT 1 K0 L0 [3] M0 M_81 := by rw [eM_81]; exact hT1.up (i := 3) hM80 rfl (by decide)
  have hT10 : fT 10 K0 L0 [1, 2] M0 M_81 := by rw [eM_81]; exact hT10.neX hX0 i_53 (by decide)
  have hM_82 : M_81 z17 = .inr (1, [.ref v80_0, .ref v80_1, .ref v80_2, .int (nI 0)]) := by rw [eM_81]; exact va_up_self _ _ _
  have hM_83 : M_81 oa = .inr (0, [.ref v56_0, .ref v56_1, .ref v56_2, .int (nI v56_3), .long f_67]) := by rw [eM_81, va_up_ne _ _ (i_43.neT i_53 (by decide))]; exact hM_77
  have hM_84 : M_81 k1 = .inr (2, [.int z0, .int z1, .int z2, .ref z3, .int (nI z4), .int (nI z5), .ref z6, .ref z7, .ref z8, .int (nI z9), .ref z10, .int (nI z11), .ref z12, .ref z13, .long 0, .int z15, .ref z16, .ref z17, .ref z18, .ref z19]) := by rw [eM_81, va_up_ne _ _ (i_44.neT i_53 (by decide))]; exact hM_78
  have hb_85 : 0 ≤ n80 := by omega
  refine lv_aload_n hx hb dX0_closeYear_60 rfl (lv_at hl 1 rfl) ?_
  refine pg_get (D := D) (ci := 2) (v := .ref z18) (C := RX2) (T := TX2) (N := 20) hx hb hg inG2 hown hK hP i_44.1 hM_84 rfl 18 (by decide) (hg _ wd_667) (fun _ h9 => h9) rfl dX0_closeYear_61 ?_
  obtain ⟨v86_0, v86_1, v86_2, hM86, h86_0⟩ := hW.open_10 i_54
  have hPc : va_P D vwCl ([] ++ va_pl L M_81) H_79 := hP
  have hDc : va_D A ([] ++ va_pl L M_81) := hD
  have hFc : ∀ q, va_A ([] ++ va_pl L M_81) H_79.size q → A q := pg_free hDc hS hA
  refine va_callv (va_runV (As := []) (rest := []) ⟨hx, hb, hml, hown, hg⟩ (s_X10_clear l D cy K L M_81 H_79.size z18  hW i_54) (cwV 0 hg (gV wd_668 wd_380 wd_381 wd_114 wd_382) rfl rfl rfl (by decide +kernel) ⟨(Nat.le_trans (Nat.le_of_ble_eq_true rfl) hRf), (Nat.le_trans (Nat.le_of_ble_eq_true rfl) hRl)⟩) ⟨PG.blind, pg_recv hK hP i_54.1 hM86 rfl, fun U hU hW => ⟨rfl, PG.at hPc hK hDc hN hU hW⟩⟩ rfl rfl hl.1 rfl (lv_room (Nat.le_of_ble_eq_true rfl)) dX0_closeYear_64 ⟨(Nat.le_trans (Nat.le_of_ble_eq_true rfl) hRc), (Nat.le_trans (Nat.le_of_ble_eq_true rfl) hRs)⟩) hS (fun q _ h => hFc q h) hFc (fun M_89 t H_87 locs ht hvm hw hB hz1 hk1 hS => ?_)
  obtain ⟨hW, hF2, gT10, hp_90⟩ := hw
  obtain ⟨hP1, hD1⟩ := hB
  rw [ht] at hP1
  have hP : va_P D vwCl ([] ++ va_pl L M_89) H_87 := hP1
  have hD : va_D A ([] ++ va_pl L M_89) := hD1.mono hFc
  have hM_91 : M_89 z17 = .inr (1, [.ref v80_0, .ref v80_1, .ref v80_2, .int (nI 0)]) := (hF2.at i_53 (by decide)).trans hM_82
  have hM_92 : M_89 oa = .inr (0, [.ref v56_0, .ref v56_1, .ref v56_2, .int (nI v56_3), .long f_67]) := (hF2.at i_43 (by decide)).trans hM_83
  have hM_93 : M_89 k1 = .inr (2, [.int z0, .int z1, .int z2, .ref z3, .int (nI z4), .int (nI z5), .ref z6, .ref z7, .ref z8, .int (nI z9), .ref z10, .int (nI z11), .ref z12, .ref z13, .long 0, .int z15, .ref z16, .ref z17, .ref z18, .ref z19]) := (hF2.at i_44 (by decide)).trans hM_84
  have hF : fr K0 L0 [0, 1, 2, 7, 8, 9, 10, 21, 56, 57, 63, 64, 65, 66, 67, 68, 69, 70, 71, 72] M0 M_89 := hF.trX hX0 hF2 (by decide)
  have hT2 : fT 2 K0 L0 [2, 5, 14] M0 M_89 := hT2.frrX hX0 hF2 (by decide)
  have hT9 : fT 9 K0 L0 [6, 9, 10, 11, 13, 14, 15] M0 M_89 := hT9.frrX hX0 hF2 (by decide)
  have hT1 : fT 1 K0 L0 [3] M0 M_89 := hT1.frrX hX0 hF2 (by decide)
  have hT10 : fT 10 K0 L0 [1, 2] M0 M_89 := hT10.trX hX0 gT10 (by decide)
  refine lv_aload_n hx hb dX0_closeYear_67 rfl (lv_at hl 1 rfl) ?_
  refine lv_iload_n hx hb dX0_closeYear_68 rfl (lv_at hl 2 rfl) ?_
  refine pg_put (D := D) (ci := 2) (v := .int k2) (ty := .int) (C := RX2) (T := TX2) (N := 20) hx hb hg inG2 tyX2 tyX2_ok nmX2 hown hK hP hD hS i_44.1 hM_93 rfl 2 (by decide) (hg _ wd_628) (fun _ h9 => h9) rfl (by decide +kernel) rfl rfl (Nat.le_of_ble_eq_true rfl) dX0_closeYear_69 (fun H_94 locs hP hD hS => ?_)
  obtain ⟨M_95, eM_95⟩ : ∃ M1 : Hp, M1 = va_up M_89 k1 (.inr (2, [.int z0, .int z1, .int k2, .ref z3, .int (nI z4), .int (nI z5), .ref z6, .ref z7, .ref z8, .int (nI z9), .ref z10, .int (nI z11), .ref z12, .ref z13, .long 0, .int z15, .ref z16, .ref z17, .ref z18, .ref z19])) := ⟨_, rfl⟩
  have hP : va_P D vwCl ([] ++ va_pl L M_95) H_94 := by rw [eM_95]; exact hP
  have hD : va_D A ([] ++ va_pl L M_95) := by rw [eM_95]; exact hD
  have hW : WOK cy K L M_95 := by rw [eM_95]; exact hW.up_2 i_44 ⟨z0, z1, k2, z3, z4, z5, z6, z7, z8, z9, z10, z11, z12, z13, 0, z15, z16, z17, z18, z19, rfl, i_45, hz4, hz5, i_46, i_47, i_48, hz9, i_49, hz11, i_50, i_51, i_52, i_53, i_54, i_55⟩
  have hF : fr K0 L0 [0, 1, 2, 7, 8, 9, 10, 21, 56, 57, 63, 64, 65, 66, 67, 68, 69, 70, 71, 72] M0 M_95 := by rw [eM_95]; exact hF.upX hX0 i_44 (by decide)
  have hT2 : fT 2 K0 L0 [2, 5, 14] M0 M_95 := by rw [eM_95]; exact hT2.up (i := 2) hM_93 rfl (by decide)
  have hT9 : fT 9 K0 L0 [6, 9, 10, 11, 13, 14, 15] M0 M_95 := by rw [eM_95]; exact hT9.neX hX0 i_44 (by decide)
  have hT1 : fT 1 K0 L0 [3] M0 M_95 := by rw [eM_95]; exact hT1.neX hX0 i_44 (by decide)
  have hT10 : fT 10 K0 L0 [1, 2] M0 M_95 := by rw [eM_95]; exact hT10.neX hX0 i_44 (by decide)
  have hM_96 : M_95 k1 = .inr (2, [.int z0, .int z1, .int k2, .ref z3, .int (nI z4), .int (nI z5), .ref z6, .ref z7, .ref z8, .int (nI z9), .ref z10, .int (nI z11), .ref z12, .ref z13, .long 0, .int z15, .ref z16, .ref z17, .ref z18, .ref z19]) := by rw [eM_95]; exact va_up_self _ _ _
  have hM_97 : M_95 z17 = .inr (1, [.ref v80_0, .ref v80_1, .ref v80_2, .int (nI 0)]) := by rw [eM_95, va_up_ne _ _ (i_53.neT i_44 (by decide))]; exact hM_91
  have hM_98 : M_95 oa = .inr (0, [.ref v56_0, .ref v56_1, .ref v56_2, .int (nI v56_3), .long f_67]) := by rw [eM_95, va_up_ne _ _ (i_43.neT i_44 (by decide))]; exact hM_92
  refine lv_aload_n hx hb dX0_closeYear_72 rfl (lv_at hl 1 rfl) ?_
  refine lv_dup hx hb dX0_closeYear_73 rfl ?_
  refine pg_get (D := D) (ci := 2) (v := .int (nI z5)) (C := RX2) (T := TX2) (N := 20) hx hb hg inG2 hown hK hP i_44.1 hM_96 rfl 5 (by decide) (hg _ wd_669) (fun _ h9 => h9) rfl dX0_closeYear_74 ?_
  refine lv_iconst (v := 1) hx hb dX0_closeYear_77 (by decide) ?_
  refine lv_iadd hx hb dX0_closeYear_78 ?_
  refine lv_topi (fun f_99 ef_99 => ?_)
  obtain rfl : f_99 = (nI (z5 + 1)) := ef_99.trans (nI_add z5 1)
  refine pg_put (D := D) (ci := 2) (v := .int (nI (z5 + 1))) (ty := .int) (C := RX2) (T := TX2) (N := 20) hx hb hg inG2 tyX2 tyX2_ok nmX2 hown hK hP hD hS i_44.1 hM_96 rfl 5 (by decide) (hg _ wd_669) (fun _ h9 => h9) rfl (by decide +kernel) rfl rfl (Nat.le_of_ble_eq_true rfl) dX0_closeYear_79 (fun H_100 locs hP hD hS => ?_)
  obtain ⟨M_101, eM_101⟩ : ∃ M1 : Hp, M1 = va_up M_95 k1 (.inr (2, [.int z0, .int z1, .int k2, .ref z3, .int (nI z4), .int (nI (z5 + 1)), .ref z6, .ref z7, .ref z8, .int (nI z9), .ref z10, .int (nI z11), .ref z12, .ref z13, .long 0, .int z15, .ref z16, .ref z17, .ref z18, .ref z19])) := ⟨_, rfl⟩
  have hP : va_P D vwCl ([] ++ va_pl L M_101) H_100 := by rw [eM_101]; exact hP
  have hD : va_D A ([] ++ va_pl L M_101) := by rw [eM_101]; exact hD
  have hW : WOK cy K L M_101 := by rw [eM_101]; exact hW.up_2 i_44 ⟨z0, z1, k2, z3, z4, (z5 + 1), z6, z7, z8, z9, z10, z11, z12, z13, 0, z15, z16, z17, z18, z19, rfl, i_45, hz4, (by omega), i_46, i_47, i_48, hz9, i_49, hz11, i_50, i_51, i_52, i_53, i_54, i_55⟩
  have hF : fr K0 L0 [0, 1, 2, 7, 8, 9, 10, 21, 56, 57, 63, 64, 65, 66, 67, 68, 69, 70, 71, 72] M0 M_101 := by rw [eM_101]; exact hF.upX hX0 i_44 (by decide)
  have hT2 : fT 2 K0 L0 [2, 5, 14] M0 M_101 := by rw [eM_101]; exact hT2.up (i := 5) hM_96 rfl (by decide)
  have hT9 : fT 9 K0 L0 [6, 9, 10, 11, 13, 14, 15] M0 M_101 := by rw [eM_101]; exact hT9.neX hX0 i_44 (by decide)
  have hT1 : fT 1 K0 L0 [3] M0 M_101 := by rw [eM_101]; exact hT1.neX hX0 i_44 (by decide)
  have hT10 : fT 10 K0 L0 [1, 2] M0 M_101 := by rw [eM_101]; exact hT10.neX hX0 i_44 (by decide)
  have hM_102 : M_101 k1 = .inr (2, [.int z0, .int z1, .int k2, .ref z3, .int (nI z4), .int (nI (z5 + 1)), .ref z6, .ref z7, .ref z8, .int (nI z9), .ref z10, .int (nI z11), .ref z12, .ref z13, .long 0, .int z15, .ref z16, .ref z17, .ref z18, .ref z19]) := by rw [eM_101]; exact va_up_self _ _ _
  have hM_103 : M_101 z17 = .inr (1, [.ref v80_0, .ref v80_1, .ref v80_2, .int (nI 0)]) := by rw [eM_101, va_up_ne _ _ (i_53.neT i_44 (by decide))]; exact hM_97
  have hM_104 : M_101 oa = .inr (0, [.ref v56_0, .ref v56_1, .ref v56_2, .int (nI v56_3), .long f_67]) := by rw [eM_101, va_up_ne _ _ (i_43.neT i_44 (by decide))]; exact hM_98
  have hb_105 : (z5 + 1) ≤ 12 := by omega
  refine lv_aload_n hx hb dX0_closeYear_82 rfl (lv_at hl 0 rfl) ?_
  refine lv_aload_n hx hb dX0_closeYear_83 rfl (lv_at hl 1 rfl) ?_
  refine lv_iload_n hx hb dX0_closeYear_84 rfl (lv_at hl 2 rfl) ?_
  have hPc : va_P D vwCl ([] ++ va_pl L M_101) H_100 := hP
  have hDc : va_D A ([] ++ va_pl L M_101) := hD
  have hFc : ∀ q, va_A ([] ++ va_pl L M_101) H_100.size q → A q := pg_free hDc hS hA
  refine va_callv (va_runV (As := [.ref k1, .int k2]) (rest := []) ⟨hx, hb, hml, hown, hg⟩ (s_X0_handOver l D cy K L M_101 H_100.size oa k1 k2  hW i_43 i_44) (cwV 2 hg (gV wd_670 wd_671 wd_672 wd_204 wd_673) rfl rfl rfl (by decide +kernel) ⟨(Nat.le_trans (Nat.le_of_ble_eq_true rfl) hRf), (Nat.le_trans (Nat.le_of_ble_eq_true rfl) hRl)⟩) ⟨PG.blind, pg_recv hK hP i_43.1 hM_104 rfl, fun U hU hW => ⟨rfl, PG.at hPc hK hDc hN hU hW⟩⟩ rfl rfl hl.1 rfl (lv_room (Nat.le_of_ble_eq_true rfl)) dX0_closeYear_85 ⟨(Nat.le_trans (Nat.le_of_ble_eq_true rfl) hRc), (Nat.le_trans (Nat.le_of_ble_eq_true rfl) hRs)⟩) hS (fun q _ h => hFc q h) hFc (fun M_108 t H_106 locs ht hvm hw hB hz1 hk1 hS => ?_)
  obtain ⟨hW, hF2, gT2, gT9, hp_109⟩ := hw
  obtain ⟨hP1, hD1⟩ := hB
  rw [ht] at hP1
  have hP : va_P D vwCl ([] ++ va_pl L M_108) H_106 := hP1
  have hD : va_D A ([] ++ va_pl L M_108) := hD1.mono hFc
  have hM_110 : M_108 z17 = .inr (1, [.ref v80_0, .ref v80_1, .ref v80_2, .int (nI 0)]) := (hF2.at i_53 (by decide)).trans hM_103
  have hM_111 : M_108 oa = .inr (0, [.ref v56_0, .ref v56_1, .ref v56_2, .int (nI v56_3), .long f_67]) := (hF2.at i_43 (by decide)).trans hM_104
  have hF : fr K0 L0 [0, 1, 2, 7, 8, 9, 10, 21, 56, 57, 63, 64, 65, 66, 67, 68, 69, 70, 71, 72] M0 M_108 := hF.trX hX0 hF2 (by decide)
  have hT2 : fT 2 K0 L0 [2, 5, 14] M0 M_108 := hT2.trX hX0 gT2 (by decide)
  have hT9 : fT 9 K0 L0 [6, 9, 10, 11, 13, 14, 15] M0 M_108 := hT9.trX hX0 gT9 (by decide)
  have hT1 : fT 1 K0 L0 [3] M0 M_108 := hT1.frrX hX0 hF2 (by decide)
  have hT10 : fT 10 K0 L0 [1, 2] M0 M_108 := hT10.frrX hX0 hF2 (by decide)
  rw [hQ]
  exact W.vret hx hb hr (fun t ht hW9 => ⟨⟨(K, L, M_108), rfl, ⟨hX0, hW, hF, hT2, hT9, hT1, hT10, trivial⟩, ⟨by rw [ht]; exact hP, hD⟩⟩, hS.F ht⟩) hS.2.2 dX0_closeYear_88
set_option maxHeartbeats 4000000 in
set_option maxRecDepth 100000 in
theorem s_X11_close (l : Launch) (D : va_G) (cy : Nat → ClassId) (K0 : Kp) (L0 : List Nat) (M0 : Hp) (sz : Nat) (xa : Nat) (x0 : Nat) (x1 : Nat) (x2 : Nat) (x3 : Nat) (x4 : Nat) (x5 : Nat) (x6 : Nat) (x7 : Int32) (x8 : Nat) (x9 : Int32) (x10 : Int32) (k1 : Int32) (hW : WOK cy K0 L0 M0) (i0 : isk K0 L0 x0 17 8) (b1 : x1 ≤ 8) (i2 : isk K0 L0 x2 19 40) (b3 : x3 ≤ 40) (i4 : isk K0 L0 x4 7 0) (i5 : isk K0 L0 x5 5 0) (i6 : isk K0 L0 x6 60 24) (i8 : isk K0 L0 x8 73 25) : Met l yX11_close (wsM yX11_close cX11_close 6 (some .int)) ({ frames := 6, cells := 720, slots := 4320, locals := 156 }) (va_Pc [.ref xa, .int k1] (PG D cy [(xa, .inr (11, [.ref x0, .int (nI x1), .ref x2, .int (nI x3), .ref x4, .ref x5, .ref x6, .int x7, .ref x8, .int x9, .int x10]))] L0 M0 sz)) (va_Qi (fun (r : Int32) (u : Kp × List Nat × Hp) => ext K0 L0 u.1 u.2.1 ∧ WOK cy u.1 u.2.1 u.2.2 ∧ fr K0 L0 [0, 1, 2, 7, 8, 9, 10, 21, 56, 57, 63, 64, 65, 66, 67, 68, 69, 70, 71, 72] M0 u.2.2 ∧ fT 2 K0 L0 [2, 5, 14] M0 u.2.2 ∧ fT 9 K0 L0 [6, 9, 10, 11, 13, 14, 15] M0 u.2.2 ∧ fT 1 K0 L0 [3] M0 u.2.2 ∧ fT 10 K0 L0 [1, 2] M0 u.2.2 ∧ (True)) (fun u t => ∃ (w9 : Int32) (w10 : Int32), PQ D [(xa, .inr (11, [.ref x0, .int (nI x1), .ref x2, .int (nI x3), .ref x4, .ref x5, .ref x6, .int x7, .ref x8, .int w9, .int w10]))] u.2.1 u.2.2 (va_A ([(xa, .inr (11, [.ref x0, .int (nI x1), .ref x2, .int (nI x3), .ref x4, .ref x5, .ref x6, .int x7, .ref x8, .int x9, .int x10]))] ++ va_pl L0 M0) sz) t) (va_A ([(xa, .inr (11, [.ref x0, .int (nI x1), .ref x2, .int (nI x3), .ref x4, .ref x5, .ref x6, .int x7, .ref x8, .int x9, .int x10]))] ++ va_pl L0 M0) sz)) 720 4320 (va_A ([(xa, .inr (11, [.ref x0, .int (nI x1), .ref x2, .int (nI x3), .ref x4, .ref x5, .ref x6, .int x7, .ref x8, .int x9, .int x10]))] ++ va_pl L0 M0) sz) := by
  refine Met.ofW (cc := cX11_close) (maxL := 6) (ret := (some .int)) (by decide) rfl ?_
  intro p e s m args below meth c s₁ B hml hv
  obtain ⟨rfl, hsz, hP, hK, hD0, hN⟩ := hv
  have hx := B.exec
  have hb := B.bytes
  have hr := B.returns
  have hts := atoms_spec (ws := (wsM yX11_close cX11_close 6 (some .int))) B.pre
  have hg : ∀ w ∈ lw_good, w.before _ s = true := fun w h => hts w (List.mem_cons_of_mem _ h)
  have hown : s.vm.findClass RX11 = some m.cls := findClass_of_methodNamed B.named
  have hlocks := B.notSynchronized
  subst hsz
  have hD := hD0.self (sz := s.heap.size)
  generalize hAe : va_A ([(xa, .inr (11, [.ref x0, .int (nI x1), .ref x2, .int (nI x3), .ref x4, .ref x5, .ref x6, .int x7, .ref x8, .int x9, .int x10]))] ++ va_pl L0 M0) s.heap.size = A at hD ⊢
  have hA : ∀ q : Nat, s.heap.size ≤ q → A q := fun q h => by rw [← hAe]; exact Or.inr h
  have hS : va_S A s.heap s.heap [] := va_S.rf
  have hl := lv_entry ([.ref xa, .int k1]) (n := 6) (Nat.le_of_ble_eq_true rfl)
  rw [lg_entry_eq]
  generalize (lg_sl ([.ref xa, .int k1]) ++ List.replicate (6 - (lg_sl ([.ref xa, .int k1])).length) Slot.unset).toArray = ls at hl ⊢
  refine W.nameQ (fun Q hQ => ?_)
  refine W.nameR (fun R hR => ?_)
  have hRf : 6 ≤ R.frames := by rw [hR]; exact Nat.le_of_ble_eq_true rfl
  have hRl : 156 ≤ R.locals := by rw [hR]; exact Nat.le_of_ble_eq_true rfl
  have hRc : 720 ≤ R.cells := by rw [hR]; exact Nat.le_of_ble_eq_true rfl
  have hRs : 4320 ≤ R.slots := by rw [hR]; exact Nat.le_of_ble_eq_true rfl
  obtain ⟨K, L, M, hX0, hF, hT2, hT9, hT1, hT10, hW, hP, hD, i0, i2, i4, i5, i6, i8⟩ : ∃ (K : Kp) (L : List Nat) (M : Hp), ext K0 L0 K L ∧ fr K0 L0 [0, 1, 2, 7, 8, 9, 10, 21, 56, 57, 63, 64, 65, 66, 67, 68, 69, 70, 71, 72] M0 M ∧ fT 2 K0 L0 [2, 5, 14] M0 M ∧ fT 9 K0 L0 [6, 9, 10, 11, 13, 14, 15] M0 M ∧ fT 1 K0 L0 [3] M0 M ∧ fT 10 K0 L0 [1, 2] M0 M ∧ WOK cy K L M ∧ va_P D vwCl ([(xa, .inr (11, [.ref x0, .int (nI x1), .ref x2, .int (nI x3), .ref x4, .ref x5, .ref x6, .int x7, .ref x8, .int x9, .int x10]))] ++ va_pl L M) s.heap ∧ va_D A ([(xa, .inr (11, [.ref x0, .int (nI x1), .ref x2, .int (nI x3), .ref x4, .ref x5, .ref x6, .int x7, .ref x8, .int x9, .int x10]))] ++ va_pl L M) ∧ isk K L x0 17 8 ∧ isk K L x2 19 40 ∧ isk K L x4 7 0 ∧ isk K L x5 5 0 ∧ isk K L x6 60 24 ∧ isk K L x8 73 25 := ⟨K0, L0, M0, ext.rf, fr.rf, fT.rf, fT.rf, fT.rf, fT.rf, hW, hP, hD, i0, i2, i4, i5, i6, i8⟩
  have hl : lv_has ls 6 [(0, .ref xa), (1, .int k1)] := hl
  refine lv_aload_n hx hb dX11_close_0 rfl (lv_at hl 0 rfl) ?_
  refine lv_iload_n hx hb dX11_close_1 rfl (lv_at hl 1 rfl) ?_
  have hPc : va_P D vwCl ([(xa, .inr (11, [.ref x0, .int (nI x1), .ref x2, .int (nI x3), .ref x4, .ref x5, .ref x6, .int x7, .ref x8, .int x9, .int x10]))] ++ va_pl L M) s.heap := hP
  have hDc : va_D A ([(xa, .inr (11, [.ref x0, .int (nI x1), .ref x2, .int (nI x3), .ref x4, .ref x5, .ref x6, .int x7, .ref x8, .int x9, .int x10]))] ++ va_pl L M) := hD
  have hFc : ∀ q, va_A ([(xa, .inr (11, [.ref x0, .int (nI x1), .ref x2, .int (nI x3), .ref x4, .ref x5, .ref x6, .int x7, .ref x8, .int x9, .int x10]))] ++ va_pl L M) s.heap.size q → A q := pg_free hDc hS hA
  refine va_callq (va_runV (As := [.int k1]) (rest := []) ⟨hx, hb, hml, hown, hg⟩ (s_X11_houseAt l D cy K L M s.heap.size xa x0 x1 x2 x3 x4 x5 x6 x7 x8 x9 x10 k1  hW i0 b1 i2 b3 i4 i5 i6 i8) (cwV 1 hg (gV wd_340 wd_341 wd_342 wd_3 wd_343) rfl rfl rfl (by decide +kernel) ⟨(Nat.le_trans (Nat.le_of_ble_eq_true rfl) hRf), (Nat.le_trans (Nat.le_of_ble_eq_true rfl) hRl)⟩) ⟨PG.blind, va_recv hK hP (ci := 11) (q0 := 0) rfl rfl, fun U hU hW => ⟨rfl, PG.at hPc hK hDc hN hU hW⟩⟩ rfl rfl hl.1 rfl (lv_room (Nat.le_of_ble_eq_true rfl)) dX11_close_2 ⟨(Nat.le_trans (Nat.le_of_ble_eq_true rfl) hRc), (Nat.le_trans (Nat.le_of_ble_eq_true rfl) hRs)⟩) hS (fun q _ h => hFc q h) hFc (fun r_2 M_3 t H_1 locs ht hvm hw hB hz1 hk1 hS => ?_)
  have hp_4 := hw
  obtain ⟨hP1, hD1⟩ := hB
  rw [ht] at hP1
  have hP : va_P D vwCl ([(xa, .inr (11, [.ref x0, .int (nI x1), .ref x2, .int (nI x3), .ref x4, .ref x5, .ref x6, .int x7, .ref x8, .int x9, .int x10]))] ++ va_pl L M) H_1 := hP1
  have hD : va_D A ([(xa, .inr (11, [.ref x0, .int (nI x1), .ref x2, .int (nI x3), .ref x4, .ref x5, .ref x6, .int x7, .ref x8, .int x9, .int x10]))] ++ va_pl L M) := hD1.mono hFc
  rcases r_2 with _ | b_5
  · have hz := rfl (a := 0)
    refine lv_astore_nN (lv' := [(2, .null), (0, .ref xa), (1, .int k1)]) hx hb dX11_close_5 rfl hl (by decide) rfl (fun ls hl => ?_)
    refine lv_aload_nN hx hb dX11_close_6 rfl (lv_at hl 0 rfl) ?_
    refine lv_ifnonnullN hx hb dX11_close_7 ?_
    refine lv_aload_n hx hb dX11_close_10 rfl (lv_at hl 1 rfl) ?_
    refine lv_iconst (v := 1) hx hb dX11_close_11 (by decide) ?_
    have hPc := hP.sub (ws' := [(xa, .inr (11, [.ref x0, .int (nI x1), .ref x2, .int (nI x3), .ref x4, .ref x5, .ref x6, .int x7, .ref x8, .int x9, .int x10]))]) [0] rfl
    have hDc := hD.sub (ws' := [(xa, .inr (11, [.ref x0, .int (nI x1), .ref x2, .int (nI x3), .ref x4, .ref x5, .ref x6, .int x7, .ref x8, .int x9, .int x10]))]) [0] (by decide) rfl
    have hKc := hK.sub (tys' := []) [] rfl
    have hFc := va_free (wc := [(xa, .inr (11, [.ref x0, .int (nI x1), .ref x2, .int (nI x3), .ref x4, .ref x5, .ref x6, .int x7, .ref x8, .int x9, .int x10]))]) hD hS hA [0] rfl
    refine va_calli (va_runV (As := [.int 1]) (rest := []) ⟨hx, hb, hml, hown, hg⟩ (k_refuse l D H_1.size xa x0 (nI x1) x2 (nI x3) x4 x5 x6 x7 x8 x9 x10 1) (cwV 1 hg (gV wd_344 wd_345 wd_346 wd_3 wd_347) rfl rfl rfl (by decide +kernel) ⟨(Nat.le_trans (Nat.le_of_ble_eq_true rfl) hRf), (Nat.le_trans (Nat.le_of_ble_eq_true rfl) hRl)⟩) ⟨Pr.blind, va_recv hK hP (ci := 11) (q0 := 0) rfl rfl, fun U hU hW => ⟨rfl, Pr.at hPc hKc hDc hN hU hW⟩⟩ rfl rfl hl.1 rfl (lv_room (Nat.le_of_ble_eq_true rfl)) dX11_close_12 ⟨(Nat.le_trans (Nat.le_of_ble_eq_true rfl) hRc), (Nat.le_trans (Nat.le_of_ble_eq_true rfl) hRs)⟩) hS (fun q _ h => hFc q h) hFc (fun r_7 M_8 t H_6 locs ht hvm hw hB hz1 hk1 hS => ?_)
    have hp_9 := hw
    obtain ⟨hP1, hK1, hD1⟩ := hB
    rw [ht] at hP1
    obtain ⟨hP, hD⟩ := va_joinQ (X := [(xa, .inr (11, [.ref x0, .int (nI x1), .ref x2, .int (nI x3), .ref x4, .ref x5, .ref x6, .int x7, .ref x8, .int x9, .int x10]))]) (cx := [(xa, .inr (11, [.ref x0, .int (nI x1), .ref x2, .int (nI x3), .ref x4, .ref x5, .ref x6, .int x7, .ref x8, .int x9, .int x10]))]) (wr := []) (w1 := [(xa, .inr (11, [.ref x0, .int (nI x1), .ref x2, .int (nI x3), .ref x4, .ref x5, .ref x6, .int x7, .ref x8, .int 1, .int (-1)]))]) (pl := va_pl L M) hP hD [0] [] rfl rfl (by decide) (by decide) hk1 hFc hP1 hD1
    have hP : va_P D vwCl ([(xa, .inr (11, [.ref x0, .int (nI x1), .ref x2, .int (nI x3), .ref x4, .ref x5, .ref x6, .int x7, .ref x8, .int 1, .int (-1)]))] ++ va_pl L M) H_6 := hP
    have hD : va_D A ([(xa, .inr (11, [.ref x0, .int (nI x1), .ref x2, .int (nI x3), .ref x4, .ref x5, .ref x6, .int x7, .ref x8, .int 1, .int (-1)]))] ++ va_pl L M) := hD
    have hq := Eq.symm hp_9
    subst hq
    refine W.widen (k := 720) (n := 4320) (Nat.le_of_ble_eq_true rfl) (Nat.le_of_ble_eq_true rfl) ?_
    rw [hQ]
    exact W.iret (v := (-1)) hx hb hr (fun t ht hW9 => ⟨⟨(-1), (K, L, M), rfl, ⟨hX0, hW, hF, hT2, hT9, hT1, hT10, trivial⟩, ⟨1, (-1), by rw [ht]; exact hP, hD⟩⟩, hS.F ht⟩) hS.2.2 dX11_close_15
  · have hb_10 := hp_4 b_5 rfl
    refine lv_astore_n (lv' := [(2, .ref b_5), (0, .ref xa), (1, .int k1)]) hx hb dX11_close_5 rfl hl (by decide) rfl (fun ls hl => ?_)
    refine lv_aload_n hx hb dX11_close_6 rfl (lv_at hl 0 rfl) ?_
    refine lv_ifnonnull (tgt := 16) hx hb dX11_close_7 (by decide) ?_
    refine lv_aload_n hx hb dX11_close_16 rfl (lv_at hl 0 rfl) ?_
    obtain ⟨v11_0, v11_1, v11_2, v11_3, v11_4, v11_5, v11_6, v11_7, v11_8, v11_9, v11_10, v11_11, v11_12, v11_13, v11_14, v11_15, v11_16, v11_17, v11_18, v11_19, hM11, h11_3, h11_4, h11_5, h11_6, h11_7, h11_8, h11_9, h11_10, h11_11, h11_12, h11_13, h11_16, h11_17, h11_18, h11_19⟩ := hW.open_2 hb_10
    refine pg_get (D := D) (ci := 2) (v := .int (nI v11_5)) (C := RX2) (T := TX2) (N := 20) hx hb hg inG2 hown hK hP hb_10.1 hM11 rfl 5 (by decide) (hg _ wd_518) (fun _ h9 => h9) rfl dX11_close_17 ?_
    refine lv_aload_n hx hb dX11_close_20 rfl (lv_at hl 0 rfl) ?_
    refine pg_get (D := D) (ci := 2) (v := .int (nI v11_4)) (C := RX2) (T := TX2) (N := 20) hx hb hg inG2 hown hK hP hb_10.1 hM11 rfl 4 (by decide) (hg _ wd_437) (fun _ h9 => h9) rfl dX11_close_21 ?_
    refine lv_icmp_ge (tgt := 36) hx hb dX11_close_24 (by decide) (fun c_12 => ?_) (fun c_12 => ?_)
    · have hz := rfl (a := 0)
      have n_13 : v11_4 ≤ v11_5 := (iLE (a := v11_4) (b := v11_5) (by omega) (by omega)).mp c_12
      refine lv_aload_n hx hb dX11_close_36 rfl (lv_at hl 1 rfl) ?_
      refine lv_bipush (v := 6) hx hb dX11_close_37 (by decide) ?_
      have hPc := hP.sub (ws' := [(xa, .inr (11, [.ref x0, .int (nI x1), .ref x2, .int (nI x3), .ref x4, .ref x5, .ref x6, .int x7, .ref x8, .int x9, .int x10]))]) [0] rfl
      have hDc := hD.sub (ws' := [(xa, .inr (11, [.ref x0, .int (nI x1), .ref x2, .int (nI x3), .ref x4, .ref x5, .ref x6, .int x7, .ref x8, .int x9, .int x10]))]) [0] (by decide) rfl
      have hKc := hK.sub (tys' := []) [] rfl
      have hFc := va_free (wc := [(xa, .inr (11, [.ref x0, .int (nI x1), .ref x2, .int (nI x3), .ref x4, .ref x5, .ref x6, .int x7, .ref x8, .int x9, .int x10]))]) hD hS hA [0] rfl
      refine va_calli (va_runV (As := [.int 6]) (rest := []) ⟨hx, hb, hml, hown, hg⟩ (k_refuse l D H_1.size xa x0 (nI x1) x2 (nI x3) x4 x5 x6 x7 x8 x9 x10 6) (cwV 1 hg (gV wd_344 wd_345 wd_346 wd_3 wd_347) rfl rfl rfl (by decide +kernel) ⟨(Nat.le_trans (Nat.le_of_ble_eq_true rfl) hRf), (Nat.le_trans (Nat.le_of_ble_eq_true rfl) hRl)⟩) ⟨Pr.blind, va_recv hK hP (ci := 11) (q0 := 0) rfl rfl, fun U hU hW => ⟨rfl, Pr.at hPc hKc hDc hN hU hW⟩⟩ rfl rfl hl.1 rfl (lv_room (Nat.le_of_ble_eq_true rfl)) dX11_close_39 ⟨(Nat.le_trans (Nat.le_of_ble_eq_true rfl) hRc), (Nat.le_trans (Nat.le_of_ble_eq_true rfl) hRs)⟩) hS (fun q _ h => hFc q h) hFc (fun r_15 M_16 t H_14 locs ht hvm hw hB hz1 hk1 hS => ?_)
      have hp_17 := hw
      obtain ⟨hP1, hK1, hD1⟩ := hB
      rw [ht] at hP1
      obtain ⟨hP, hD⟩ := va_joinQ (X := [(xa, .inr (11, [.ref x0, .int (nI x1), .ref x2, .int (nI x3), .ref x4, .ref x5, .ref x6, .int x7, .ref x8, .int x9, .int x10]))]) (cx := [(xa, .inr (11, [.ref x0, .int (nI x1), .ref x2, .int (nI x3), .ref x4, .ref x5, .ref x6, .int x7, .ref x8, .int x9, .int x10]))]) (wr := []) (w1 := [(xa, .inr (11, [.ref x0, .int (nI x1), .ref x2, .int (nI x3), .ref x4, .ref x5, .ref x6, .int x7, .ref x8, .int 6, .int (-1)]))]) (pl := va_pl L M) hP hD [0] [] rfl rfl (by decide) (by decide) hk1 hFc hP1 hD1
      have hP : va_P D vwCl ([(xa, .inr (11, [.ref x0, .int (nI x1), .ref x2, .int (nI x3), .ref x4, .ref x5, .ref x6, .int x7, .ref x8, .int 6, .int (-1)]))] ++ va_pl L M) H_14 := hP
      have hD : va_D A ([(xa, .inr (11, [.ref x0, .int (nI x1), .ref x2, .int (nI x3), .ref x4, .ref x5, .ref x6, .int x7, .ref x8, .int 6, .int (-1)]))] ++ va_pl L M) := hD
      have hq := Eq.symm hp_17
      subst hq
      refine W.widen (k := 720) (n := 4320) (Nat.le_of_ble_eq_true rfl) (Nat.le_of_ble_eq_true rfl) ?_
      rw [hQ]
      exact W.iret (v := (-1)) hx hb hr (fun t ht hW9 => ⟨⟨(-1), (K, L, M), rfl, ⟨hX0, hW, hF, hT2, hT9, hT1, hT10, trivial⟩, ⟨6, (-1), by rw [ht]; exact hP, hD⟩⟩, hS.F ht⟩) hS.2.2 dX11_close_42
    · have hz := rfl (a := 0)
      have n_18 : ¬ (v11_4 ≤ v11_5) := fun q => c_12 ((iLE (a := v11_4) (b := v11_5) (by omega) (by omega)).mpr q)
      refine lv_aload_n hx hb dX11_close_27 rfl (lv_at hl 0 rfl) ?_
      refine pg_get (D := D) (ci := 2) (v := .int (nI v11_5)) (C := RX2) (T := TX2) (N := 20) hx hb hg inG2 hown hK hP hb_10.1 hM11 rfl 5 (by decide) (hg _ wd_518) (fun _ h9 => h9) rfl dX11_close_28 ?_
      refine lv_bipush (v := 12) hx hb dX11_close_31 (by decide) ?_
      refine lv_icmp_lt (tgt := 43) hx hb dX11_close_33 (by decide) (fun c_19 => ?_) (fun c_19 => ?_)
      · have hz := rfl (a := 0)
        have n_20 : v11_5 < 12 := (iLT (a := v11_5) (b := 12) (by omega) (by omega)).mp c_19
        refine lv_aload_n hx hb dX11_close_43 rfl (lv_at hl 0 rfl) ?_
        refine pg_get (D := D) (ci := 2) (v := .int (nI v11_11)) (C := RX2) (T := TX2) (N := 20) hx hb hg inG2 hown hK hP hb_10.1 hM11 rfl 11 (by decide) (hg _ wd_442) (fun _ h9 => h9) rfl dX11_close_44 ?_
        refine lv_if_ne (tgt := 56) hx hb dX11_close_47 (by decide) (fun c_21 => ?_) (fun c_21 => ?_)
        · have hz := rfl (a := 0)
          have n_22 : ¬ (v11_11 = 0) := fun q => c_21 ((iEQ (a := v11_11) (b := 0) (by omega) (by omega)).mpr q)
          refine lv_aload_n hx hb dX11_close_56 rfl (lv_at hl 0 rfl) ?_
          refine pg_get (D := D) (ci := 2) (v := .ref v11_3) (C := RX2) (T := TX2) (N := 20) hx hb hg inG2 hown hK hP hb_10.1 hM11 rfl 3 (by decide) (hg _ wd_438) (fun _ h9 => h9) rfl dX11_close_57 ?_
          refine lv_aload_n hx hb dX11_close_60 rfl (lv_at hl 0 rfl) ?_
          refine pg_get (D := D) (ci := 2) (v := .int (nI v11_5)) (C := RX2) (T := TX2) (N := 20) hx hb hg inG2 hown hK hP hb_10.1 hM11 rfl 5 (by decide) (hg _ wd_518) (fun _ h9 => h9) rfl dX11_close_61 ?_
          obtain ⟨f23, hM23⟩ := hW.open_51 h11_3
          refine pg_iald hx hb hK hP h11_3.1 0 hM23 rfl (inbN v11_5 12 (by omega) (by omega)) dX11_close_64 ?_
          refine lv_topi (fun f_24 ef_24 => ?_)
          refine lv_istore_n (lv' := [(3, .int f_24), (2, .ref b_5), (0, .ref xa), (1, .int k1)]) hx hb dX11_close_65 rfl hl (by decide) rfl (fun ls hl => ?_)
          refine lv_aload_n hx hb dX11_close_66 rfl (lv_at hl 1 rfl) ?_
          have hPc : va_P D vwCl ([] ++ va_pl L M) H_1 := hP.part (cx := []) [] rfl
          have hDc : va_D A ([] ++ va_pl L M) := hD.part (cx := []) [] (by decide) rfl
          have hFc : ∀ q, va_A ([] ++ va_pl L M) H_1.size q → A q := pg_free hDc hS hA
          refine va_calli (va_runV (As := []) (rest := []) ⟨hx, hb, hml, hown, hg⟩ (s_X2_firstOpenDay l D cy K L M H_1.size b_5  hW hb_10) (cwV 0 hg (gV wd_674 wd_327 wd_328 wd_57 wd_329) rfl rfl rfl (by decide +kernel) ⟨(Nat.le_trans (Nat.le_of_ble_eq_true rfl) hRf), (Nat.le_trans (Nat.le_of_ble_eq_true rfl) hRl)⟩) ⟨PG.blind, pg_recv hK hP hb_10.1 hM11 rfl, fun U hU hW => ⟨rfl, PG.at hPc hK hDc hN hU hW⟩⟩ rfl rfl hl.1 rfl (lv_room (Nat.le_of_ble_eq_true rfl)) dX11_close_67 ⟨(Nat.le_trans (Nat.le_of_ble_eq_true rfl) hRc), (Nat.le_trans (Nat.le_of_ble_eq_true rfl) hRs)⟩) hS (fun q _ h => hFc q h) hFc (fun r_26 M_27 t H_25 locs ht hvm hw hB hz1 hk1 hS => ?_)
          have hp_28 := hw
          obtain ⟨hP1, hD1⟩ := hB
          rw [ht] at hP1
          obtain ⟨hP, hD⟩ := va_joinP (X := [(xa, .inr (11, [.ref x0, .int (nI x1), .ref x2, .int (nI x3), .ref x4, .ref x5, .ref x6, .int x7, .ref x8, .int x9, .int x10]))]) (cx := []) (wr := [(xa, .inr (11, [.ref x0, .int (nI x1), .ref x2, .int (nI x3), .ref x4, .ref x5, .ref x6, .int x7, .ref x8, .int x9, .int x10]))]) (rx := []) (pl := va_pl L M) (pl1 := va_pl L M) hP hD [] [0] rfl rfl (by decide) (by decide) hk1 hFc hP1 hD1
          have hP : va_P D vwCl ([(xa, .inr (11, [.ref x0, .int (nI x1), .ref x2, .int (nI x3), .ref x4, .ref x5, .ref x6, .int x7, .ref x8, .int x9, .int x10]))] ++ va_pl L M) H_25 := hP
          have hD : va_D A ([(xa, .inr (11, [.ref x0, .int (nI x1), .ref x2, .int (nI x3), .ref x4, .ref x5, .ref x6, .int x7, .ref x8, .int x9, .int x10]))] ++ va_pl L M) := hD
          refine lv_istore (lv' := [(4, .int r_26), (3, .int f_24), (2, .ref b_5), (0, .ref xa), (1, .int k1)]) hx hb dX11_close_70 hl (by decide) rfl (fun ls hl => ?_)
          refine lv_iload hx hb dX11_close_72 (lv_at hl 0 rfl) ?_
          refine lv_iload_n hx hb dX11_close_74 rfl (lv_at hl 1 rfl) ?_
          refine lv_icmp_gt (tgt := 86) hx hb dX11_close_75 (by decide) (fun c_29 => ?_) (fun c_29 => ?_)
          · have hz := rfl (a := 0)
            refine lv_aload_n hx hb dX11_close_86 rfl (lv_at hl 3 rfl) ?_
            refine lv_aload_n hx hb dX11_close_87 rfl (lv_at hl 2 rfl) ?_
            refine lv_iload_n hx hb dX11_close_88 rfl (lv_at hl 1 rfl) ?_
            have hPc : va_P D vwCl ([(xa, .inr (11, [.ref x0, .int (nI x1), .ref x2, .int (nI x3), .ref x4, .ref x5, .ref x6, .int x7, .ref x8, .int x9, .int x10]))] ++ va_pl L M) H_25 := hP
            have hDc : va_D A ([(xa, .inr (11, [.ref x0, .int (nI x1), .ref x2, .int (nI x3), .ref x4, .ref x5, .ref x6, .int x7, .ref x8, .int x9, .int x10]))] ++ va_pl L M) := hD
            have hFc : ∀ q, va_A ([(xa, .inr (11, [.ref x0, .int (nI x1), .ref x2, .int (nI x3), .ref x4, .ref x5, .ref x6, .int x7, .ref x8, .int x9, .int x10]))] ++ va_pl L M) H_25.size q → A q := pg_free hDc hS hA
            refine va_calli (va_runV (As := [.ref b_5, .int f_24]) (rest := []) ⟨hx, hb, hml, hown, hg⟩ (s_X11_firstHouseBehind l D cy K L M H_25.size xa x0 x1 x2 x3 x4 x5 x6 x7 x8 x9 x10 b_5 f_24  hW i0 b1 i2 b3 i4 i5 i6 i8 hb_10) (cwV 2 hg (gV wd_675 wd_676 wd_677 wd_3 wd_678) rfl rfl rfl (by decide +kernel) ⟨(Nat.le_trans (Nat.le_of_ble_eq_true rfl) hRf), (Nat.le_trans (Nat.le_of_ble_eq_true rfl) hRl)⟩) ⟨PG.blind, va_recv hK hP (ci := 11) (q0 := 0) rfl rfl, fun U hU hW => ⟨rfl, PG.at hPc hK hDc hN hU hW⟩⟩ rfl rfl hl.1 rfl (lv_room (Nat.le_of_ble_eq_true rfl)) dX11_close_89 ⟨(Nat.le_trans (Nat.le_of_ble_eq_true rfl) hRc), (Nat.le_trans (Nat.le_of_ble_eq_true rfl) hRs)⟩) hS (fun q _ h => hFc q h) hFc (fun r_31 M_32 t H_30 locs ht hvm hw hB hz1 hk1 hS => ?_)
            have hp_33 := hw
            obtain ⟨hP1, hD1⟩ := hB
            rw [ht] at hP1
            have hP : va_P D vwCl ([(xa, .inr (11, [.ref x0, .int (nI x1), .ref x2, .int (nI x3), .ref x4, .ref x5, .ref x6, .int x7, .ref x8, .int x9, .int x10]))] ++ va_pl L M) H_30 := hP1
            have hD : va_D A ([(xa, .inr (11, [.ref x0, .int (nI x1), .ref x2, .int (nI x3), .ref x4, .ref x5, .ref x6, .int x7, .ref x8, .int x9, .int x10]))] ++ va_pl L M) := hD1.mono hFc
            refine lv_istore (lv' := [(5, .int r_31), (4, .int r_26), (3, .int f_24), (2, .ref b_5), (0, .ref xa), (1, .int k1)]) hx hb dX11_close_92 hl (by decide) rfl (fun ls hl => ?_)
            refine lv_iload hx hb dX11_close_94 (lv_at hl 0 rfl) ?_
            refine lv_iconst (v := (-1)) hx hb dX11_close_96 (by decide) ?_
            refine lv_icmp_eq (tgt := 109) hx hb dX11_close_97 (by decide) (fun c_34 => ?_) (fun c_34 => ?_)
            · have hz := rfl (a := 0)
              refine lv_aload_n hx hb dX11_close_109 rfl (lv_at hl 3 rfl) ?_
              refine pg_get (D := D) (ci := 2) (v := .ref v11_19) (C := RX2) (T := TX2) (N := 20) hx hb hg inG2 hown hK hP hb_10.1 hM11 rfl 19 (by decide) (hg _ wd_496) (fun _ h9 => h9) rfl dX11_close_110 ?_
              refine lv_aload_n hx hb dX11_close_113 rfl (lv_at hl 3 rfl) ?_
              refine lv_iload_n hx hb dX11_close_114 rfl (lv_at hl 2 rfl) ?_
              obtain ⟨v35_0, v35_1, v35_2, v35_3, v35_4, hM35, h35_0, h35_1, h35_2, h35_3⟩ := hW.open_0 h11_19
              have hPc : va_P D vwCl ([] ++ va_pl L M) H_30 := hP.part (cx := []) [] rfl
              have hDc : va_D A ([] ++ va_pl L M) := hD.part (cx := []) [] (by decide) rfl
              have hFc : ∀ q, va_A ([] ++ va_pl L M) H_30.size q → A q := pg_free hDc hS hA
              refine va_callv (va_runV (As := [.ref b_5, .int f_24]) (rest := []) ⟨hx, hb, hml, hown, hg⟩ (s_closeYear l D cy K L M H_30.size v11_19 b_5 f_24 v11_0 v11_1 v11_2 v11_3 v11_4 v11_5 v11_6 v11_7 v11_8 v11_9 v11_10 v11_11 v11_12 v11_13 v11_14 v11_15 v11_16 v11_17 v11_18 v11_19 hW h11_19 hb_10 (by omega) hM11 h11_3 h11_4 h11_5 h11_6 h11_7 h11_8 h11_9 h11_10 h11_11 h11_12 h11_13 h11_16 h11_17 h11_18 h11_19) (cwV 2 hg (gV wd_679 wd_680 wd_681 wd_204 wd_682) rfl rfl rfl (by decide +kernel) ⟨(Nat.le_trans (Nat.le_of_ble_eq_true rfl) hRf), (Nat.le_trans (Nat.le_of_ble_eq_true rfl) hRl)⟩) ⟨PG.blind, pg_recv hK hP h11_19.1 hM35 rfl, fun U hU hW => ⟨rfl, PG.at hPc hK hDc hN hU hW⟩⟩ rfl rfl hl.1 rfl (lv_room (Nat.le_of_ble_eq_true rfl)) dX11_close_115 ⟨(Nat.le_trans (Nat.le_of_ble_eq_true rfl) hRc), (Nat.le_trans (Nat.le_of_ble_eq_true rfl) hRs)⟩) hS (fun q _ h => hFc q h) hFc (fun M_38 t H_36 locs ht hvm hw hB hz1 hk1 hS => ?_)
              obtain ⟨K9, L9, M_38m⟩ := M_38
              dsimp only at hw hB
              obtain ⟨hx9, hW, hF2, gT2, gT9, gT1, gT10, hp_39⟩ := hw
              obtain ⟨hP1, hD1⟩ := hB
              rw [ht] at hP1
              obtain ⟨hP, hD⟩ := va_joinP (X := [(xa, .inr (11, [.ref x0, .int (nI x1), .ref x2, .int (nI x3), .ref x4, .ref x5, .ref x6, .int x7, .ref x8, .int x9, .int x10]))]) (cx := []) (wr := [(xa, .inr (11, [.ref x0, .int (nI x1), .ref x2, .int (nI x3), .ref x4, .ref x5, .ref x6, .int x7, .ref x8, .int x9, .int x10]))]) (rx := []) (pl := va_pl L M) (pl1 := va_pl L9 M_38m) hP hD [] [0] rfl rfl (by decide) (by decide) hk1 hFc hP1 hD1
              have hP : va_P D vwCl ([(xa, .inr (11, [.ref x0, .int (nI x1), .ref x2, .int (nI x3), .ref x4, .ref x5, .ref x6, .int x7, .ref x8, .int x9, .int x10]))] ++ va_pl L9 M_38m) H_36 := hP
              have hD : va_D A ([(xa, .inr (11, [.ref x0, .int (nI x1), .ref x2, .int (nI x3), .ref x4, .ref x5, .ref x6, .int x7, .ref x8, .int x9, .int x10]))] ++ va_pl L9 M_38m) := hD
              have hM_40 : M_38m v11_3 = .inl (cy 14, 12, .inl (f23)) := (hF2.at h11_3 (by decide)).trans hM23
              have hF : fr K0 L0 [0, 1, 2, 7, 8, 9, 10, 21, 56, 57, 63, 64, 65, 66, 67, 68, 69, 70, 71, 72] M0 M_38m := hF.trX hX0 hF2 (by decide)
              have hT2 : fT 2 K0 L0 [2, 5, 14] M0 M_38m := hT2.trX hX0 gT2 (by decide)
              have hT9 : fT 9 K0 L0 [6, 9, 10, 11, 13, 14, 15] M0 M_38m := hT9.trX hX0 gT9 (by decide)
              have hT1 : fT 1 K0 L0 [3] M0 M_38m := hT1.trX hX0 gT1 (by decide)
              have hT10 : fT 10 K0 L0 [1, 2] M0 M_38m := hT10.trX hX0 gT10 (by decide)
              have hX0 := hX0.tr hx9
              have i_41 := i0.ext hx9
              have i_42 := i2.ext hx9
              have i_43 := i4.ext hx9
              have i_44 := i5.ext hx9
              have i_45 := i6.ext hx9
              have i_46 := i8.ext hx9
              have i_47 := hb_10.ext hx9
              have i_48 := h11_3.ext hx9
              have i_49 := h11_19.ext hx9
              obtain ⟨K, L, hK9, hL9⟩ : ∃ (K : Kp) (L : List Nat), K = K9 ∧ L = L9 := ⟨_, _, rfl, rfl⟩
              subst hK9
              subst hL9
              refine W.widen (k := 720) (n := 4320) (Nat.le_of_ble_eq_true rfl) (Nat.le_of_ble_eq_true rfl) ?_
              refine lv_aload_n hx hb dX11_close_118 rfl (lv_at hl 4 rfl) ?_
              refine lv_aload_n hx hb dX11_close_119 rfl (lv_at hl 3 rfl) ?_
              obtain ⟨v50_0, v50_1, v50_2, v50_3, v50_4, v50_5, v50_6, v50_7, v50_8, v50_9, v50_10, v50_11, v50_12, v50_13, v50_14, v50_15, v50_16, v50_17, v50_18, v50_19, hM50, h50_3, h50_4, h50_5, h50_6, h50_7, h50_8, h50_9, h50_10, h50_11, h50_12, h50_13, h50_16, h50_17, h50_18, h50_19⟩ := hW.open_2 i_47
              refine pg_get (D := D) (ci := 2) (v := .int (nI v50_5)) (C := RX2) (T := TX2) (N := 20) hx hb hg inG2 hown hK hP i_47.1 hM50 rfl 5 (by decide) (hg _ wd_518) (fun _ h9 => h9) rfl dX11_close_120 ?_
              refine lv_iconst (v := 1) hx hb dX11_close_123 (by decide) ?_
              refine lv_isub hx hb dX11_close_124 ?_
              refine lv_topi (fun f_51 ef_51 => ?_)
              have hPc := hP.sub (ws' := [(xa, .inr (11, [.ref x0, .int (nI x1), .ref x2, .int (nI x3), .ref x4, .ref x5, .ref x6, .int x7, .ref x8, .int x9, .int x10]))]) [0] rfl
              have hDc := hD.sub (ws' := [(xa, .inr (11, [.ref x0, .int (nI x1), .ref x2, .int (nI x3), .ref x4, .ref x5, .ref x6, .int x7, .ref x8, .int x9, .int x10]))]) [0] (by decide) rfl
              have hKc := hK.sub (tys' := []) [] rfl
              have hFc := va_free (wc := [(xa, .inr (11, [.ref x0, .int (nI x1), .ref x2, .int (nI x3), .ref x4, .ref x5, .ref x6, .int x7, .ref x8, .int x9, .int x10]))]) hD hS hA [0] rfl
              refine va_calli (va_runV (As := [.int f_51]) (rest := []) ⟨hx, hb, hml, hown, hg⟩ (k_accept l D H_36.size xa x0 (nI x1) x2 (nI x3) x4 x5 x6 x7 x8 x9 x10 f_51) (cwV 1 hg (gV wd_356 wd_357 wd_358 wd_3 wd_359) rfl rfl rfl (by decide +kernel) ⟨(Nat.le_trans (Nat.le_of_ble_eq_true rfl) hRf), (Nat.le_trans (Nat.le_of_ble_eq_true rfl) hRl)⟩) ⟨Pr.blind, va_recv hK hP (ci := 11) (q0 := 0) rfl rfl, fun U hU hW => ⟨rfl, Pr.at hPc hKc hDc hN hU hW⟩⟩ rfl rfl hl.1 rfl (lv_room (Nat.le_of_ble_eq_true rfl)) dX11_close_125 ⟨(Nat.le_trans (Nat.le_of_ble_eq_true rfl) hRc), (Nat.le_trans (Nat.le_of_ble_eq_true rfl) hRs)⟩) hS (fun q _ h => hFc q h) hFc (fun r_53 M_54 t H_52 locs ht hvm hw hB hz1 hk1 hS => ?_)
              have hp_55 := hw
              obtain ⟨hP1, hK1, hD1⟩ := hB
              rw [ht] at hP1
              obtain ⟨hP, hD⟩ := va_joinQ (X := [(xa, .inr (11, [.ref x0, .int (nI x1), .ref x2, .int (nI x3), .ref x4, .ref x5, .ref x6, .int x7, .ref x8, .int x9, .int x10]))]) (cx := [(xa, .inr (11, [.ref x0, .int (nI x1), .ref x2, .int (nI x3), .ref x4, .ref x5, .ref x6, .int x7, .ref x8, .int x9, .int x10]))]) (wr := []) (w1 := [(xa, .inr (11, [.ref x0, .int (nI x1), .ref x2, .int (nI x3), .ref x4, .ref x5, .ref x6, .int x7, .ref x8, .int 0, .int (-1)]))]) (pl := va_pl L M_38m) hP hD [0] [] rfl rfl (by decide) (by decide) hk1 hFc hP1 hD1
              have hP : va_P D vwCl ([(xa, .inr (11, [.ref x0, .int (nI x1), .ref x2, .int (nI x3), .ref x4, .ref x5, .ref x6, .int x7, .ref x8, .int 0, .int (-1)]))] ++ va_pl L M_38m) H_52 := hP
              have hD : va_D A ([(xa, .inr (11, [.ref x0, .int (nI x1), .ref x2, .int (nI x3), .ref x4, .ref x5, .ref x6, .int x7, .ref x8, .int 0, .int (-1)]))] ++ va_pl L M_38m) := hD
              have hq := Eq.symm hp_55
              subst hq
              rw [hQ]
              exact W.iret (v := f_51) hx hb hr (fun t ht hW9 => ⟨⟨f_51, (K, L, M_38m), rfl, ⟨hX0, hW, hF, hT2, hT9, hT1, hT10, trivial⟩, ⟨0, (-1), by rw [ht]; exact hP, hD⟩⟩, hS.F ht⟩) hS.2.2 dX11_close_128
            · have hz := rfl (a := 0)
              refine lv_aload_n hx hb dX11_close_100 rfl (lv_at hl 4 rfl) ?_
              refine lv_bipush (v := 7) hx hb dX11_close_101 (by decide) ?_
              refine lv_iload hx hb dX11_close_103 (lv_at hl 0 rfl) ?_
              have hPc := hP.sub (ws' := [(xa, .inr (11, [.ref x0, .int (nI x1), .ref x2, .int (nI x3), .ref x4, .ref x5, .ref x6, .int x7, .ref x8, .int x9, .int x10]))]) [0] rfl
              have hDc := hD.sub (ws' := [(xa, .inr (11, [.ref x0, .int (nI x1), .ref x2, .int (nI x3), .ref x4, .ref x5, .ref x6, .int x7, .ref x8, .int x9, .int x10]))]) [0] (by decide) rfl
              have hKc := hK.sub (tys' := []) [] rfl
              have hFc := va_free (wc := [(xa, .inr (11, [.ref x0, .int (nI x1), .ref x2, .int (nI x3), .ref x4, .ref x5, .ref x6, .int x7, .ref x8, .int x9, .int x10]))]) hD hS hA [0] rfl
              refine va_calli (va_runV (As := [.int 7, .int r_31]) (rest := []) ⟨hx, hb, hml, hown, hg⟩ (k_refuseAt l D H_30.size xa x0 (nI x1) x2 (nI x3) x4 x5 x6 x7 x8 x9 x10 7 r_31) (cwV 2 hg (gV wd_332 wd_333 wd_334 wd_3 wd_335) rfl rfl rfl (by decide +kernel) ⟨(Nat.le_trans (Nat.le_of_ble_eq_true rfl) hRf), (Nat.le_trans (Nat.le_of_ble_eq_true rfl) hRl)⟩) ⟨Pr.blind, va_recv hK hP (ci := 11) (q0 := 0) rfl rfl, fun U hU hW => ⟨rfl, Pr.at hPc hKc hDc hN hU hW⟩⟩ rfl rfl hl.1 rfl (lv_room (Nat.le_of_ble_eq_true rfl)) dX11_close_105 ⟨(Nat.le_trans (Nat.le_of_ble_eq_true rfl) hRc), (Nat.le_trans (Nat.le_of_ble_eq_true rfl) hRs)⟩) hS (fun q _ h => hFc q h) hFc (fun r_57 M_58 t H_56 locs ht hvm hw hB hz1 hk1 hS => ?_)
              have hp_59 := hw
              obtain ⟨hP1, hK1, hD1⟩ := hB
              rw [ht] at hP1
              obtain ⟨hP, hD⟩ := va_joinQ (X := [(xa, .inr (11, [.ref x0, .int (nI x1), .ref x2, .int (nI x3), .ref x4, .ref x5, .ref x6, .int x7, .ref x8, .int x9, .int x10]))]) (cx := [(xa, .inr (11, [.ref x0, .int (nI x1), .ref x2, .int (nI x3), .ref x4, .ref x5, .ref x6, .int x7, .ref x8, .int x9, .int x10]))]) (wr := []) (w1 := [(xa, .inr (11, [.ref x0, .int (nI x1), .ref x2, .int (nI x3), .ref x4, .ref x5, .ref x6, .int x7, .ref x8, .int 7, .int r_31]))]) (pl := va_pl L M) hP hD [0] [] rfl rfl (by decide) (by decide) hk1 hFc hP1 hD1
              have hP : va_P D vwCl ([(xa, .inr (11, [.ref x0, .int (nI x1), .ref x2, .int (nI x3), .ref x4, .ref x5, .ref x6, .int x7, .ref x8, .int 7, .int r_31]))] ++ va_pl L M) H_56 := hP
              have hD : va_D A ([(xa, .inr (11, [.ref x0, .int (nI x1), .ref x2, .int (nI x3), .ref x4, .ref x5, .ref x6, .int x7, .ref x8, .int 7, .int r_31]))] ++ va_pl L M) := hD
              have hq := Eq.symm hp_59
              subst hq
              refine W.widen (k := 720) (n := 4320) (Nat.le_of_ble_eq_true rfl) (Nat.le_of_ble_eq_true rfl) ?_
              rw [hQ]
              exact W.iret (v := (-1)) hx hb hr (fun t ht hW9 => ⟨⟨(-1), (K, L, M), rfl, ⟨hX0, hW, hF, hT2, hT9, hT1, hT10, trivial⟩, ⟨7, r_31, by rw [ht]; exact hP, hD⟩⟩, hS.F ht⟩) hS.2.2 dX11_close_108
          · have hz := rfl (a := 0)
            refine lv_aload_n hx hb dX11_close_78 rfl (lv_at hl 3 rfl) ?_
            refine lv_iconst (v := 5) hx hb dX11_close_79 (by decide) ?_
            refine lv_iload hx hb dX11_close_80 (lv_at hl 0 rfl) ?_
            have hPc := hP.sub (ws' := [(xa, .inr (11, [.ref x0, .int (nI x1), .ref x2, .int (nI x3), .ref x4, .ref x5, .ref x6, .int x7, .ref x8, .int x9, .int x10]))]) [0] rfl
            have hDc := hD.sub (ws' := [(xa, .inr (11, [.ref x0, .int (nI x1), .ref x2, .int (nI x3), .ref x4, .ref x5, .ref x6, .int x7, .ref x8, .int x9, .int x10]))]) [0] (by decide) rfl
            have hKc := hK.sub (tys' := []) [] rfl
            have hFc := va_free (wc := [(xa, .inr (11, [.ref x0, .int (nI x1), .ref x2, .int (nI x3), .ref x4, .ref x5, .ref x6, .int x7, .ref x8, .int x9, .int x10]))]) hD hS hA [0] rfl
            refine va_calli (va_runV (As := [.int 5, .int r_26]) (rest := []) ⟨hx, hb, hml, hown, hg⟩ (k_refuseAt l D H_25.size xa x0 (nI x1) x2 (nI x3) x4 x5 x6 x7 x8 x9 x10 5 r_26) (cwV 2 hg (gV wd_332 wd_333 wd_334 wd_3 wd_335) rfl rfl rfl (by decide +kernel) ⟨(Nat.le_trans (Nat.le_of_ble_eq_true rfl) hRf), (Nat.le_trans (Nat.le_of_ble_eq_true rfl) hRl)⟩) ⟨Pr.blind, va_recv hK hP (ci := 11) (q0 := 0) rfl rfl, fun U hU hW => ⟨rfl, Pr.at hPc hKc hDc hN hU hW⟩⟩ rfl rfl hl.1 rfl (lv_room (Nat.le_of_ble_eq_true rfl)) dX11_close_82 ⟨(Nat.le_trans (Nat.le_of_ble_eq_true rfl) hRc), (Nat.le_trans (Nat.le_of_ble_eq_true rfl) hRs)⟩) hS (fun q _ h => hFc q h) hFc (fun r_61 M_62 t H_60 locs ht hvm hw hB hz1 hk1 hS => ?_)
            have hp_63 := hw
            obtain ⟨hP1, hK1, hD1⟩ := hB
            rw [ht] at hP1
            obtain ⟨hP, hD⟩ := va_joinQ (X := [(xa, .inr (11, [.ref x0, .int (nI x1), .ref x2, .int (nI x3), .ref x4, .ref x5, .ref x6, .int x7, .ref x8, .int x9, .int x10]))]) (cx := [(xa, .inr (11, [.ref x0, .int (nI x1), .ref x2, .int (nI x3), .ref x4, .ref x5, .ref x6, .int x7, .ref x8, .int x9, .int x10]))]) (wr := []) (w1 := [(xa, .inr (11, [.ref x0, .int (nI x1), .ref x2, .int (nI x3), .ref x4, .ref x5, .ref x6, .int x7, .ref x8, .int 5, .int r_26]))]) (pl := va_pl L M) hP hD [0] [] rfl rfl (by decide) (by decide) hk1 hFc hP1 hD1
            have hP : va_P D vwCl ([(xa, .inr (11, [.ref x0, .int (nI x1), .ref x2, .int (nI x3), .ref x4, .ref x5, .ref x6, .int x7, .ref x8, .int 5, .int r_26]))] ++ va_pl L M) H_60 := hP
            have hD : va_D A ([(xa, .inr (11, [.ref x0, .int (nI x1), .ref x2, .int (nI x3), .ref x4, .ref x5, .ref x6, .int x7, .ref x8, .int 5, .int r_26]))] ++ va_pl L M) := hD
            have hq := Eq.symm hp_63
            subst hq
            refine W.widen (k := 720) (n := 4320) (Nat.le_of_ble_eq_true rfl) (Nat.le_of_ble_eq_true rfl) ?_
            rw [hQ]
            exact W.iret (v := (-1)) hx hb hr (fun t ht hW9 => ⟨⟨(-1), (K, L, M), rfl, ⟨hX0, hW, hF, hT2, hT9, hT1, hT10, trivial⟩, ⟨5, r_26, by rw [ht]; exact hP, hD⟩⟩, hS.F ht⟩) hS.2.2 dX11_close_85
        · have hz := rfl (a := 0)
          have n_64 : v11_11 = 0 := (iEQ (a := v11_11) (b := 0) (by omega) (by omega)).mp c_21
          refine lv_aload_n hx hb dX11_close_50 rfl (lv_at hl 1 rfl) ?_
          refine lv_iconst (v := 1) hx hb dX11_close_51 (by decide) ?_
          have hPc := hP.sub (ws' := [(xa, .inr (11, [.ref x0, .int (nI x1), .ref x2, .int (nI x3), .ref x4, .ref x5, .ref x6, .int x7, .ref x8, .int x9, .int x10]))]) [0] rfl
          have hDc := hD.sub (ws' := [(xa, .inr (11, [.ref x0, .int (nI x1), .ref x2, .int (nI x3), .ref x4, .ref x5, .ref x6, .int x7, .ref x8, .int x9, .int x10]))]) [0] (by decide) rfl
          have hKc := hK.sub (tys' := []) [] rfl
          have hFc := va_free (wc := [(xa, .inr (11, [.ref x0, .int (nI x1), .ref x2, .int (nI x3), .ref x4, .ref x5, .ref x6, .int x7, .ref x8, .int x9, .int x10]))]) hD hS hA [0] rfl
          refine va_calli (va_runV (As := [.int 1]) (rest := []) ⟨hx, hb, hml, hown, hg⟩ (k_refuse l D H_1.size xa x0 (nI x1) x2 (nI x3) x4 x5 x6 x7 x8 x9 x10 1) (cwV 1 hg (gV wd_344 wd_345 wd_346 wd_3 wd_347) rfl rfl rfl (by decide +kernel) ⟨(Nat.le_trans (Nat.le_of_ble_eq_true rfl) hRf), (Nat.le_trans (Nat.le_of_ble_eq_true rfl) hRl)⟩) ⟨Pr.blind, va_recv hK hP (ci := 11) (q0 := 0) rfl rfl, fun U hU hW => ⟨rfl, Pr.at hPc hKc hDc hN hU hW⟩⟩ rfl rfl hl.1 rfl (lv_room (Nat.le_of_ble_eq_true rfl)) dX11_close_52 ⟨(Nat.le_trans (Nat.le_of_ble_eq_true rfl) hRc), (Nat.le_trans (Nat.le_of_ble_eq_true rfl) hRs)⟩) hS (fun q _ h => hFc q h) hFc (fun r_66 M_67 t H_65 locs ht hvm hw hB hz1 hk1 hS => ?_)
          have hp_68 := hw
          obtain ⟨hP1, hK1, hD1⟩ := hB
          rw [ht] at hP1
          obtain ⟨hP, hD⟩ := va_joinQ (X := [(xa, .inr (11, [.ref x0, .int (nI x1), .ref x2, .int (nI x3), .ref x4, .ref x5, .ref x6, .int x7, .ref x8, .int x9, .int x10]))]) (cx := [(xa, .inr (11, [.ref x0, .int (nI x1), .ref x2, .int (nI x3), .ref x4, .ref x5, .ref x6, .int x7, .ref x8, .int x9, .int x10]))]) (wr := []) (w1 := [(xa, .inr (11, [.ref x0, .int (nI x1), .ref x2, .int (nI x3), .ref x4, .ref x5, .ref x6, .int x7, .ref x8, .int 1, .int (-1)]))]) (pl := va_pl L M) hP hD [0] [] rfl rfl (by decide) (by decide) hk1 hFc hP1 hD1
          have hP : va_P D vwCl ([(xa, .inr (11, [.ref x0, .int (nI x1), .ref x2, .int (nI x3), .ref x4, .ref x5, .ref x6, .int x7, .ref x8, .int 1, .int (-1)]))] ++ va_pl L M) H_65 := hP
          have hD : va_D A ([(xa, .inr (11, [.ref x0, .int (nI x1), .ref x2, .int (nI x3), .ref x4, .ref x5, .ref x6, .int x7, .ref x8, .int 1, .int (-1)]))] ++ va_pl L M) := hD
          have hq := Eq.symm hp_68
          subst hq
          refine W.widen (k := 720) (n := 4320) (Nat.le_of_ble_eq_true rfl) (Nat.le_of_ble_eq_true rfl) ?_
          rw [hQ]
          exact W.iret (v := (-1)) hx hb hr (fun t ht hW9 => ⟨⟨(-1), (K, L, M), rfl, ⟨hX0, hW, hF, hT2, hT9, hT1, hT10, trivial⟩, ⟨1, (-1), by rw [ht]; exact hP, hD⟩⟩, hS.F ht⟩) hS.2.2 dX11_close_55
      · have hz := rfl (a := 0)
        have n_69 : ¬ (v11_5 < 12) := fun q => c_19 ((iLT (a := v11_5) (b := 12) (by omega) (by omega)).mpr q)
        refine lv_aload_n hx hb dX11_close_36 rfl (lv_at hl 1 rfl) ?_
        refine lv_bipush (v := 6) hx hb dX11_close_37 (by decide) ?_
        have hPc := hP.sub (ws' := [(xa, .inr (11, [.ref x0, .int (nI x1), .ref x2, .int (nI x3), .ref x4, .ref x5, .ref x6, .int x7, .ref x8, .int x9, .int x10]))]) [0] rfl
        have hDc := hD.sub (ws' := [(xa, .inr (11, [.ref x0, .int (nI x1), .ref x2, .int (nI x3), .ref x4, .ref x5, .ref x6, .int x7, .ref x8, .int x9, .int x10]))]) [0] (by decide) rfl
        have hKc := hK.sub (tys' := []) [] rfl
        have hFc := va_free (wc := [(xa, .inr (11, [.ref x0, .int (nI x1), .ref x2, .int (nI x3), .ref x4, .ref x5, .ref x6, .int x7, .ref x8, .int x9, .int x10]))]) hD hS hA [0] rfl
        refine va_calli (va_runV (As := [.int 6]) (rest := []) ⟨hx, hb, hml, hown, hg⟩ (k_refuse l D H_1.size xa x0 (nI x1) x2 (nI x3) x4 x5 x6 x7 x8 x9 x10 6) (cwV 1 hg (gV wd_344 wd_345 wd_346 wd_3 wd_347) rfl rfl rfl (by decide +kernel) ⟨(Nat.le_trans (Nat.le_of_ble_eq_true rfl) hRf), (Nat.le_trans (Nat.le_of_ble_eq_true rfl) hRl)⟩) ⟨Pr.blind, va_recv hK hP (ci := 11) (q0 := 0) rfl rfl, fun U hU hW => ⟨rfl, Pr.at hPc hKc hDc hN hU hW⟩⟩ rfl rfl hl.1 rfl (lv_room (Nat.le_of_ble_eq_true rfl)) dX11_close_39 ⟨(Nat.le_trans (Nat.le_of_ble_eq_true rfl) hRc), (Nat.le_trans (Nat.le_of_ble_eq_true rfl) hRs)⟩) hS (fun q _ h => hFc q h) hFc (fun r_71 M_72 t H_70 locs ht hvm hw hB hz1 hk1 hS => ?_)
        have hp_73 := hw
        obtain ⟨hP1, hK1, hD1⟩ := hB
        rw [ht] at hP1
        obtain ⟨hP, hD⟩ := va_joinQ (X := [(xa, .inr (11, [.ref x0, .int (nI x1), .ref x2, .int (nI x3), .ref x4, .ref x5, .ref x6, .int x7, .ref x8, .int x9, .int x10]))]) (cx := [(xa, .inr (11, [.ref x0, .int (nI x1), .ref x2, .int (nI x3), .ref x4, .ref x5, .ref x6, .int x7, .ref x8, .int x9, .int x10]))]) (wr := []) (w1 := [(xa, .inr (11, [.ref x0, .int (nI x1), .ref x2, .int (nI x3), .ref x4, .ref x5, .ref x6, .int x7, .ref x8, .int 6, .int (-1)]))]) (pl := va_pl L M) hP hD [0] [] rfl rfl (by decide) (by decide) hk1 hFc hP1 hD1
        have hP : va_P D vwCl ([(xa, .inr (11, [.ref x0, .int (nI x1), .ref x2, .int (nI x3), .ref x4, .ref x5, .ref x6, .int x7, .ref x8, .int 6, .int (-1)]))] ++ va_pl L M) H_70 := hP
        have hD : va_D A ([(xa, .inr (11, [.ref x0, .int (nI x1), .ref x2, .int (nI x3), .ref x4, .ref x5, .ref x6, .int x7, .ref x8, .int 6, .int (-1)]))] ++ va_pl L M) := hD
        have hq := Eq.symm hp_73
        subst hq
        refine W.widen (k := 720) (n := 4320) (Nat.le_of_ble_eq_true rfl) (Nat.le_of_ble_eq_true rfl) ?_
        rw [hQ]
        exact W.iret (v := (-1)) hx hb hr (fun t ht hW9 => ⟨⟨(-1), (K, L, M), rfl, ⟨hX0, hW, hF, hT2, hT9, hT1, hT10, trivial⟩, ⟨6, (-1), by rw [ht]; exact hP, hD⟩⟩, hS.F ht⟩) hS.2.2 dX11_close_42
