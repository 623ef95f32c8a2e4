theorem dX0_append_0 : decode cX0_append 0 = .ok (.aload_n 0, 1) := by decide +kernel
theorem dX0_append_1 : decode cX0_append 1 = .ok (.getfield 25, 3) := by decide +kernel
theorem dX0_append_4 : decode cX0_append 4 = .ok (.aload_n 0, 1) := by decide +kernel
theorem dX0_append_5 : decode cX0_append 5 = .ok (.getfield 11, 3) := by decide +kernel
theorem dX0_append_8 : decode cX0_append 8 = .ok (.arraylength, 1) := by decide +kernel
theorem dX0_append_9 : decode cX0_append 9 = .ok (.if_icmp .lt 5, 3) := by decide +kernel
theorem dX0_append_14 : decode cX0_append 14 = .ok (.aload_n 0, 1) := by decide +kernel
theorem dX0_append_15 : decode cX0_append 15 = .ok (.getfield 11, 3) := by decide +kernel
theorem dX0_append_18 : decode cX0_append 18 = .ok (.aload_n 0, 1) := by decide +kernel
theorem dX0_append_19 : decode cX0_append 19 = .ok (.getfield 25, 3) := by decide +kernel
theorem dX0_append_22 : decode cX0_append 22 = .ok (.aaload, 1) := by decide +kernel
theorem dX0_append_23 : decode cX0_append 23 = .ok (.ifnonnull 19, 3) := by decide +kernel
theorem dX0_append_26 : decode cX0_append 26 = .ok (.aload_n 0, 1) := by decide +kernel
theorem dX0_append_27 : decode cX0_append 27 = .ok (.getfield 11, 3) := by decide +kernel
theorem dX0_append_30 : decode cX0_append 30 = .ok (.aload_n 0, 1) := by decide +kernel
theorem dX0_append_31 : decode cX0_append 31 = .ok (.getfield 25, 3) := by decide +kernel
theorem dX0_append_34 : decode cX0_append 34 = .ok (.new 9, 3) := by decide +kernel
theorem dX0_append_37 : decode cX0_append 37 = .ok (.dup, 1) := by decide +kernel
theorem dX0_append_38 : decode cX0_append 38 = .ok (.invokespecial 29, 3) := by decide +kernel
theorem dX0_append_41 : decode cX0_append 41 = .ok (.aastore, 1) := by decide +kernel
theorem dX0_append_42 : decode cX0_append 42 = .ok (.aload_n 0, 1) := by decide +kernel
theorem dX0_append_43 : decode cX0_append 43 = .ok (.getfield 11, 3) := by decide +kernel
theorem dX0_append_46 : decode cX0_append 46 = .ok (.aload_n 0, 1) := by decide +kernel
theorem dX0_append_47 : decode cX0_append 47 = .ok (.getfield 25, 3) := by decide +kernel
theorem dX0_append_50 : decode cX0_append 50 = .ok (.aaload, 1) := by decide +kernel
theorem dX0_append_51 : decode cX0_append 51 = .ok (.astore_n 2, 1) := by decide +kernel
theorem dX0_append_52 : decode cX0_append 52 = .ok (.aload_n 0, 1) := by decide +kernel
theorem dX0_append_53 : decode cX0_append 53 = .ok (.dup, 1) := by decide +kernel
theorem dX0_append_54 : decode cX0_append 54 = .ok (.getfield 25, 3) := by decide +kernel
theorem dX0_append_57 : decode cX0_append 57 = .ok (.iconst 1, 1) := by decide +kernel
theorem dX0_append_58 : decode cX0_append 58 = .ok (.iadd, 1) := by decide +kernel
theorem dX0_append_59 : decode cX0_append 59 = .ok (.putfield 25, 3) := by decide +kernel
theorem dX0_append_62 : decode cX0_append 62 = .ok (.aload_n 2, 1) := by decide +kernel
theorem dX0_append_63 : decode cX0_append 63 = .ok (.iload_n 1, 1) := by decide +kernel
theorem dX0_append_64 : decode cX0_append 64 = .ok (.invokevirtual 30, 3) := by decide +kernel
theorem dX0_append_67 : decode cX0_append 67 = .ok (.aload_n 2, 1) := by decide +kernel
theorem dX0_append_68 : decode cX0_append 68 = .ok (.areturn, 1) := by decide +kernel
theorem dX0_closeYear_0 : decode cX0_closeYear 0 = .ok (.aload_n 0, 1) := by decide +kernel
theorem dX0_closeYear_1 : decode cX0_closeYear 1 = .ok (.iconst 0, 1) := by decide +kernel
theorem dX0_closeYear_2 : decode cX0_closeYear 2 = .ok (.putfield 25, 3) := by decide +kernel
theorem dX0_closeYear_5 : decode cX0_closeYear 5 = .ok (.aload_n 0, 1) := by decide +kernel
theorem dX0_closeYear_6 : decode cX0_closeYear 6 = .ok (.aload_n 1, 1) := by decide +kernel
theorem dX0_closeYear_7 : decode cX0_closeYear 7 = .ok (.iload_n 2, 1) := by decide +kernel
theorem dX0_closeYear_8 : decode cX0_closeYear 8 = .ok (.invokevirtual 42, 3) := by decide +kernel
theorem dX0_closeYear_11 : decode cX0_closeYear 11 = .ok (.aload_n 0, 1) := by decide +kernel
theorem dX0_closeYear_12 : decode cX0_closeYear 12 = .ok (.aload_n 1, 1) := by decide +kernel
theorem dX0_closeYear_13 : decode cX0_closeYear 13 = .ok (.invokevirtual 46, 3) := by decide +kernel
theorem dX0_closeYear_16 : decode cX0_closeYear 16 = .ok (.aload_n 0, 1) := by decide +kernel
theorem dX0_closeYear_17 : decode cX0_closeYear 17 = .ok (.aload_n 1, 1) := by decide +kernel
theorem dX0_closeYear_18 : decode cX0_closeYear 18 = .ok (.invokevirtual 50, 3) := by decide +kernel
theorem dX0_closeYear_21 : decode cX0_closeYear 21 = .ok (.aload_n 0, 1) := by decide +kernel
theorem dX0_closeYear_22 : decode cX0_closeYear 22 = .ok (.aload_n 1, 1) := by decide +kernel
theorem dX0_closeYear_23 : decode cX0_closeYear 23 = .ok (.invokevirtual 53, 3) := by decide +kernel
theorem dX0_closeYear_26 : decode cX0_closeYear 26 = .ok (.aload_n 0, 1) := by decide +kernel
theorem dX0_closeYear_27 : decode cX0_closeYear 27 = .ok (.aload_n 1, 1) := by decide +kernel
theorem dX0_closeYear_28 : decode cX0_closeYear 28 = .ok (.invokevirtual 56, 3) := by decide +kernel
theorem dX0_closeYear_31 : decode cX0_closeYear 31 = .ok (.aload_n 0, 1) := by decide +kernel
theorem dX0_closeYear_32 : decode cX0_closeYear 32 = .ok (.dup, 1) := by decide +kernel
theorem dX0_closeYear_33 : decode cX0_closeYear 33 = .ok (.getfield 59, 3) := by decide +kernel
theorem dX0_closeYear_36 : decode cX0_closeYear 36 = .ok (.aload_n 0, 1) := by decide +kernel
theorem dX0_closeYear_37 : decode cX0_closeYear 37 = .ok (.invokevirtual 62, 3) := by decide +kernel
theorem dX0_closeYear_40 : decode cX0_closeYear 40 = .ok (.ladd, 1) := by decide +kernel
theorem dX0_closeYear_41 : decode cX0_closeYear 41 = .ok (.putfield 59, 3) := by decide +kernel
theorem dX0_closeYear_44 : decode cX0_closeYear 44 = .ok (.aload_n 1, 1) := by decide +kernel
theorem dX0_closeYear_45 : decode cX0_closeYear 45 = .ok (.getfield 66, 3) := by decide +kernel
theorem dX0_closeYear_48 : decode cX0_closeYear 48 = .ok (.iload_n 2, 1) := by decide +kernel
theorem dX0_closeYear_49 : decode cX0_closeYear 49 = .ok (.invokevirtual 72, 3) := by decide +kernel
theorem dX0_closeYear_52 : decode cX0_closeYear 52 = .ok (.aload_n 1, 1) := by decide +kernel
theorem dX0_closeYear_53 : decode cX0_closeYear 53 = .ok (.getfield 77, 3) := by decide +kernel
theorem dX0_closeYear_56 : decode cX0_closeYear 56 = .ok (.iconst 0, 1) := by decide +kernel
theorem dX0_closeYear_57 : decode cX0_closeYear 57 = .ok (.putfield 80, 3) := by decide +kernel
theorem dX0_closeYear_60 : decode cX0_closeYear 60 = .ok (.aload_n 1, 1) := by decide +kernel
theorem dX0_closeYear_61 : decode cX0_closeYear 61 = .ok (.getfield 81, 3) := by decide +kernel
theorem dX0_closeYear_64 : decode cX0_closeYear 64 = .ok (.invokevirtual 85, 3) := by decide +kernel
theorem dX0_closeYear_67 : decode cX0_closeYear 67 = .ok (.aload_n 1, 1) := by decide +kernel
theorem dX0_closeYear_68 : decode cX0_closeYear 68 = .ok (.iload_n 2, 1) := by decide +kernel
theorem dX0_closeYear_69 : decode cX0_closeYear 69 = .ok (.putfield 90, 3) := by decide +kernel
theorem dX0_closeYear_72 : decode cX0_closeYear 72 = .ok (.aload_n 1, 1) := by decide +kernel
theorem dX0_closeYear_73 : decode cX0_closeYear 73 = .ok (.dup, 1) := by decide +kernel
theorem dX0_closeYear_74 : decode cX0_closeYear 74 = .ok (.getfield 93, 3) := by decide +kernel
theorem dX0_closeYear_77 : decode cX0_closeYear 77 = .ok (.iconst 1, 1) := by decide +kernel
theorem dX0_closeYear_78 : decode cX0_closeYear 78 = .ok (.iadd, 1) := by decide +kernel
theorem dX0_closeYear_79 : decode cX0_closeYear 79 = .ok (.putfield 93, 3) := by decide +kernel
theorem dX0_closeYear_82 : decode cX0_closeYear 82 = .ok (.aload_n 0, 1) := by decide +kernel
theorem dX0_closeYear_83 : decode cX0_closeYear 83 = .ok (.aload_n 1, 1) := by decide +kernel
theorem dX0_closeYear_84 : decode cX0_closeYear 84 = .ok (.iload_n 2, 1) := by decide +kernel
theorem dX0_closeYear_85 : decode cX0_closeYear 85 = .ok (.invokevirtual 96, 3) := by decide +kernel
theorem dX0_closeYear_88 : decode cX0_closeYear 88 = .ok (.return_, 1) := by decide +kernel
theorem dX0_partDays_0 : decode cX0_partDays 0 = .ok (.aconst_null, 1) := by decide +kernel
theorem dX0_partDays_1 : decode cX0_partDays 1 = .ok (.astore_n 3, 1) := by decide +kernel
theorem dX0_partDays_2 : decode cX0_partDays 2 = .ok (.iconst 0, 1) := by decide +kernel
theorem dX0_partDays_3 : decode cX0_partDays 3 = .ok (.aload_n 1, 1) := by decide +kernel
theorem dX0_partDays_4 : decode cX0_partDays 4 = .ok (.getfield 90, 3) := by decide +kernel
theorem dX0_partDays_7 : decode cX0_partDays 7 = .ok (.iconst 1, 1) := by decide +kernel
theorem dX0_partDays_8 : decode cX0_partDays 8 = .ok (.iadd, 1) := by decide +kernel
theorem dX0_partDays_9 : decode cX0_partDays 9 = .ok (.invokestatic 99, 3) := by decide +kernel
theorem dX0_partDays_12 : decode cX0_partDays 12 = .ok (.istore 4, 2) := by decide +kernel
theorem dX0_partDays_14 : decode cX0_partDays 14 = .ok (.iload 4, 2) := by decide +kernel
theorem dX0_partDays_16 : decode cX0_partDays 16 = .ok (.iload_n 2, 1) := by decide +kernel
theorem dX0_partDays_17 : decode cX0_partDays 17 = .ok (.if_icmp .gt 74, 3) := by decide +kernel
theorem dX0_partDays_20 : decode cX0_partDays 20 = .ok (.iload 4, 2) := by decide +kernel
theorem dX0_partDays_22 : decode cX0_partDays 22 = .ok (.sipush 999, 3) := by decide +kernel
theorem dX0_partDays_25 : decode cX0_partDays 25 = .ok (.if_icmp .gt 66, 3) := by decide +kernel
theorem dX0_partDays_28 : decode cX0_partDays 28 = .ok (.aload_n 3, 1) := by decide +kernel
theorem dX0_partDays_29 : decode cX0_partDays 29 = .ok (.ifnull 12, 3) := by decide +kernel
theorem dX0_partDays_32 : decode cX0_partDays 32 = .ok (.aload_n 1, 1) := by decide +kernel
theorem dX0_partDays_33 : decode cX0_partDays 33 = .ok (.iload 4, 2) := by decide +kernel
theorem dX0_partDays_35 : decode cX0_partDays 35 = .ok (.invokevirtual 105, 3) := by decide +kernel
theorem dX0_partDays_38 : decode cX0_partDays 38 = .ok (.ifCond .eq 10, 3) := by decide +kernel
theorem dX0_partDays_41 : decode cX0_partDays 41 = .ok (.aload_n 0, 1) := by decide +kernel
theorem dX0_partDays_42 : decode cX0_partDays 42 = .ok (.iload 4, 2) := by decide +kernel
theorem dX0_partDays_44 : decode cX0_partDays 44 = .ok (.invokevirtual 109, 3) := by decide +kernel
theorem dX0_partDays_47 : decode cX0_partDays 47 = .ok (.astore_n 3, 1) := by decide +kernel
theorem dX0_partDays_48 : decode cX0_partDays 48 = .ok (.aload_n 3, 1) := by decide +kernel
theorem dX0_partDays_49 : decode cX0_partDays 49 = .ok (.ifnull 36, 3) := by decide +kernel
theorem dX0_partDays_52 : decode cX0_partDays 52 = .ok (.aload_n 3, 1) := by decide +kernel
theorem dX0_partDays_53 : decode cX0_partDays 53 = .ok (.dup, 1) := by decide +kernel
theorem dX0_partDays_54 : decode cX0_partDays 54 = .ok (.getfield 112, 3) := by decide +kernel
theorem dX0_partDays_57 : decode cX0_partDays 57 = .ok (.iconst 1, 1) := by decide +kernel
theorem dX0_partDays_58 : decode cX0_partDays 58 = .ok (.iadd, 1) := by decide +kernel
theorem dX0_partDays_59 : decode cX0_partDays 59 = .ok (.putfield 112, 3) := by decide +kernel
theorem dX0_partDays_62 : decode cX0_partDays 62 = .ok (.aload_n 3, 1) := by decide +kernel
theorem dX0_partDays_63 : decode cX0_partDays 63 = .ok (.dup, 1) := by decide +kernel
theorem dX0_partDays_64 : decode cX0_partDays 64 = .ok (.getfield 115, 3) := by decide +kernel
theorem dX0_partDays_67 : decode cX0_partDays 67 = .ok (.aload_n 1, 1) := by decide +kernel
theorem dX0_partDays_68 : decode cX0_partDays 68 = .ok (.iload 4, 2) := by decide +kernel
theorem dX0_partDays_70 : decode cX0_partDays 70 = .ok (.invokevirtual 118, 3) := by decide +kernel
theorem dX0_partDays_73 : decode cX0_partDays 73 = .ok (.aload_n 1, 1) := by decide +kernel
theorem dX0_partDays_74 : decode cX0_partDays 74 = .ok (.getfield 122, 3) := by decide +kernel
theorem dX0_partDays_77 : decode cX0_partDays 77 = .ok (.iload 4, 2) := by decide +kernel
theorem dX0_partDays_79 : decode cX0_partDays 79 = .ok (.laload, 1) := by decide +kernel
theorem dX0_partDays_80 : decode cX0_partDays 80 = .ok (.ladd, 1) := by decide +kernel
theorem dX0_partDays_81 : decode cX0_partDays 81 = .ok (.ladd, 1) := by decide +kernel
theorem dX0_partDays_82 : decode cX0_partDays 82 = .ok (.putfield 115, 3) := by decide +kernel
theorem dX0_partDays_85 : decode cX0_partDays 85 = .ok (.iinc 4 1, 3) := by decide +kernel
theorem dX0_partDays_88 : decode cX0_partDays 88 = .ok (.goto (-74), 3) := by decide +kernel
theorem dX0_partDays_91 : decode cX0_partDays 91 = .ok (.return_, 1) := by decide +kernel
theorem dX0_settleMends_0 : decode cX0_settleMends 0 = .ok (.iconst 0, 1) := by decide +kernel
theorem dX0_settleMends_1 : decode cX0_settleMends 1 = .ok (.istore_n 2, 1) := by decide +kernel
theorem dX0_settleMends_2 : decode cX0_settleMends 2 = .ok (.iload_n 2, 1) := by decide +kernel
theorem dX0_settleMends_3 : decode cX0_settleMends 3 = .ok (.aload_n 1, 1) := by decide +kernel
theorem dX0_settleMends_4 : decode cX0_settleMends 4 = .ok (.getfield 77, 3) := by decide +kernel
theorem dX0_settleMends_7 : decode cX0_settleMends 7 = .ok (.getfield 80, 3) := by decide +kernel
theorem dX0_settleMends_10 : decode cX0_settleMends 10 = .ok (.if_icmp .ge 107, 3) := by decide +kernel
theorem dX0_settleMends_13 : decode cX0_settleMends 13 = .ok (.aload_n 0, 1) := by decide +kernel
theorem dX0_settleMends_14 : decode cX0_settleMends 14 = .ok (.aload_n 1, 1) := by decide +kernel
theorem dX0_settleMends_15 : decode cX0_settleMends 15 = .ok (.getfield 77, 3) := by decide +kernel
theorem dX0_settleMends_18 : decode cX0_settleMends 18 = .ok (.getfield 174, 3) := by decide +kernel
theorem dX0_settleMends_21 : decode cX0_settleMends 21 = .ok (.iload_n 2, 1) := by decide +kernel
theorem dX0_settleMends_22 : decode cX0_settleMends 22 = .ok (.iaload, 1) := by decide +kernel
theorem dX0_settleMends_23 : decode cX0_settleMends 23 = .ok (.invokevirtual 109, 3) := by decide +kernel
theorem dX0_settleMends_26 : decode cX0_settleMends 26 = .ok (.astore_n 3, 1) := by decide +kernel
theorem dX0_settleMends_27 : decode cX0_settleMends 27 = .ok (.aload_n 3, 1) := by decide +kernel
theorem dX0_settleMends_28 : decode cX0_settleMends 28 = .ok (.ifnonnull 7, 3) := by decide +kernel
theorem dX0_settleMends_35 : decode cX0_settleMends 35 = .ok (.aload_n 1, 1) := by decide +kernel
theorem dX0_settleMends_36 : decode cX0_settleMends 36 = .ok (.aload_n 3, 1) := by decide +kernel
theorem dX0_settleMends_37 : decode cX0_settleMends 37 = .ok (.getfield 145, 3) := by decide +kernel
theorem dX0_settleMends_40 : decode cX0_settleMends 40 = .ok (.invokevirtual 148, 3) := by decide +kernel
theorem dX0_settleMends_43 : decode cX0_settleMends 43 = .ok (.astore 4, 2) := by decide +kernel
theorem dX0_settleMends_45 : decode cX0_settleMends 45 = .ok (.aload_n 3, 1) := by decide +kernel
theorem dX0_settleMends_46 : decode cX0_settleMends 46 = .ok (.ifnull 65, 3) := by decide +kernel
theorem dX0_settleMends_49 : decode cX0_settleMends 49 = .ok (.aload 4, 2) := by decide +kernel
theorem dX0_settleMends_51 : decode cX0_settleMends 51 = .ok (.ifnonnull 6, 3) := by decide +kernel
theorem dX0_settleMends_54 : decode cX0_settleMends 54 = .ok (.goto 57, 3) := by decide +kernel
theorem dX0_settleMends_57 : decode cX0_settleMends 57 = .ok (.aload_n 3, 1) := by decide +kernel
theorem dX0_settleMends_58 : decode cX0_settleMends 58 = .ok (.aload_n 1, 1) := by decide +kernel
theorem dX0_settleMends_59 : decode cX0_settleMends 59 = .ok (.invokevirtual 152, 3) := by decide +kernel
theorem dX0_settleMends_62 : decode cX0_settleMends 62 = .ok (.aload_n 3, 1) := by decide +kernel
theorem dX0_settleMends_63 : decode cX0_settleMends 63 = .ok (.aload_n 1, 1) := by decide +kernel
theorem dX0_settleMends_64 : decode cX0_settleMends 64 = .ok (.getfield 77, 3) := by decide +kernel
theorem dX0_settleMends_67 : decode cX0_settleMends 67 = .ok (.getfield 177, 3) := by decide +kernel
theorem dX0_settleMends_70 : decode cX0_settleMends 70 = .ok (.iload_n 2, 1) := by decide +kernel
theorem dX0_settleMends_71 : decode cX0_settleMends 71 = .ok (.iaload, 1) := by decide +kernel
theorem dX0_settleMends_72 : decode cX0_settleMends 72 = .ok (.i2l, 1) := by decide +kernel
theorem dX0_settleMends_73 : decode cX0_settleMends 73 = .ok (.putfield 115, 3) := by decide +kernel
theorem dX0_settleMends_76 : decode cX0_settleMends 76 = .ok (.aload_n 3, 1) := by decide +kernel
theorem dX0_settleMends_77 : decode cX0_settleMends 77 = .ok (.getfield 115, 3) := by decide +kernel
theorem dX0_settleMends_80 : decode cX0_settleMends 80 = .ok (.lconst 0, 1) := by decide +kernel
theorem dX0_settleMends_81 : decode cX0_settleMends 81 = .ok (.lcmp, 1) := by decide +kernel
theorem dX0_settleMends_82 : decode cX0_settleMends 82 = .ok (.ifCond .le 17, 3) := by decide +kernel
theorem dX0_settleMends_85 : decode cX0_settleMends 85 = .ok (.aload_n 0, 1) := by decide +kernel
theorem dX0_settleMends_86 : decode cX0_settleMends 86 = .ok (.aload_n 3, 1) := by decide +kernel
theorem dX0_settleMends_87 : decode cX0_settleMends 87 = .ok (.aload 4, 2) := by decide +kernel
theorem dX0_settleMends_89 : decode cX0_settleMends 89 = .ok (.aload_n 3, 1) := by decide +kernel
theorem dX0_settleMends_90 : decode cX0_settleMends 90 = .ok (.getfield 115, 3) := by decide +kernel
theorem dX0_settleMends_93 : decode cX0_settleMends 93 = .ok (.invokevirtual 167, 3) := by decide +kernel
theorem dX0_settleMends_96 : decode cX0_settleMends 96 = .ok (.goto 15, 3) := by decide +kernel
theorem dX0_settleMends_99 : decode cX0_settleMends 99 = .ok (.aload_n 0, 1) := by decide +kernel
theorem dX0_settleMends_100 : decode cX0_settleMends 100 = .ok (.aload_n 3, 1) := by decide +kernel
theorem dX0_settleMends_101 : decode cX0_settleMends 101 = .ok (.aload 4, 2) := by decide +kernel
theorem dX0_settleMends_103 : decode cX0_settleMends 103 = .ok (.aload_n 3, 1) := by decide +kernel
theorem dX0_settleMends_104 : decode cX0_settleMends 104 = .ok (.getfield 115, 3) := by decide +kernel
theorem dX0_settleMends_107 : decode cX0_settleMends 107 = .ok (.lneg, 1) := by decide +kernel
theorem dX0_settleMends_108 : decode cX0_settleMends 108 = .ok (.invokevirtual 171, 3) := by decide +kernel
theorem dX0_settleMends_111 : decode cX0_settleMends 111 = .ok (.iinc 2 1, 3) := by decide +kernel
theorem dX0_settleMends_114 : decode cX0_settleMends 114 = .ok (.goto (-112), 3) := by decide +kernel
theorem dX0_settleMends_117 : decode cX0_settleMends 117 = .ok (.return_, 1) := by decide +kernel
theorem dX11_close_0 : decode cX11_close 0 = .ok (.aload_n 0, 1) := by decide +kernel
theorem dX11_close_1 : decode cX11_close 1 = .ok (.iload_n 1, 1) := by decide +kernel
theorem dX11_close_2 : decode cX11_close 2 = .ok (.invokevirtual 65, 3) := by decide +kernel
theorem dX11_close_5 : decode cX11_close 5 = .ok (.astore_n 2, 1) := by decide +kernel
theorem dX11_close_6 : decode cX11_close 6 = .ok (.aload_n 2, 1) := by decide +kernel
theorem dX11_close_7 : decode cX11_close 7 = .ok (.ifnonnull 9, 3) := by decide +kernel
theorem dX11_close_10 : decode cX11_close 10 = .ok (.aload_n 0, 1) := by decide +kernel
theorem dX11_close_11 : decode cX11_close 11 = .ok (.iconst 1, 1) := by decide +kernel
theorem dX11_close_12 : decode cX11_close 12 = .ok (.invokevirtual 47, 3) := by decide +kernel
theorem dX11_close_15 : decode cX11_close 15 = .ok (.ireturn, 1) := by decide +kernel
theorem dX11_close_16 : decode cX11_close 16 = .ok (.aload_n 2, 1) := by decide +kernel
theorem dX11_close_17 : decode cX11_close 17 = .ok (.getfield 269, 3) := by decide +kernel
theorem dX11_close_20 : decode cX11_close 20 = .ok (.aload_n 2, 1) := by decide +kernel
theorem dX11_close_21 : decode cX11_close 21 = .ok (.getfield 263, 3) := by decide +kernel
theorem dX11_close_24 : decode cX11_close 24 = .ok (.if_icmp .ge 12, 3) := by decide +kernel
theorem dX11_close_27 : decode cX11_close 27 = .ok (.aload_n 2, 1) := by decide +kernel
theorem dX11_close_28 : decode cX11_close 28 = .ok (.getfield 269, 3) := by decide +kernel
theorem dX11_close_31 : decode cX11_close 31 = .ok (.bipush 12, 2) := by decide +kernel
theorem dX11_close_33 : decode cX11_close 33 = .ok (.if_icmp .lt 10, 3) := by decide +kernel
theorem dX11_close_36 : decode cX11_close 36 = .ok (.aload_n 0, 1) := by decide +kernel
theorem dX11_close_37 : decode cX11_close 37 = .ok (.bipush 6, 2) := by decide +kernel
theorem dX11_close_39 : decode cX11_close 39 = .ok (.invokevirtual 47, 3) := by decide +kernel
theorem dX11_close_42 : decode cX11_close 42 = .ok (.ireturn, 1) := by decide +kernel
theorem dX11_close_43 : decode cX11_close 43 = .ok (.aload_n 2, 1) := by decide +kernel
theorem dX11_close_44 : decode cX11_close 44 = .ok (.getfield 161, 3) := by decide +kernel
theorem dX11_close_47 : decode cX11_close 47 = .ok (.ifCond .ne 9, 3) := by decide +kernel
theorem dX11_close_50 : decode cX11_close 50 = .ok (.aload_n 0, 1) := by decide +kernel
theorem dX11_close_51 : decode cX11_close 51 = .ok (.iconst 1, 1) := by decide +kernel
theorem dX11_close_52 : decode cX11_close 52 = .ok (.invokevirtual 47, 3) := by decide +kernel
theorem dX11_close_55 : decode cX11_close 55 = .ok (.ireturn, 1) := by decide +kernel
theorem dX11_close_56 : decode cX11_close 56 = .ok (.aload_n 2, 1) := by decide +kernel
theorem dX11_close_57 : decode cX11_close 57 = .ok (.getfield 266, 3) := by decide +kernel
theorem dX11_close_60 : decode cX11_close 60 = .ok (.aload_n 2, 1) := by decide +kernel
theorem dX11_close_61 : decode cX11_close 61 = .ok (.getfield 269, 3) := by decide +kernel
theorem dX11_close_64 : decode cX11_close 64 = .ok (.iaload, 1) := by decide +kernel
theorem dX11_close_65 : decode cX11_close 65 = .ok (.istore_n 3, 1) := by decide +kernel
theorem dX11_close_66 : decode cX11_close 66 = .ok (.aload_n 2, 1) := by decide +kernel
theorem dX11_close_67 : decode cX11_close 67 = .ok (.invokevirtual 272, 3) := by decide +kernel
theorem dX11_close_70 : decode cX11_close 70 = .ok (.istore 4, 2) := by decide +kernel
theorem dX11_close_72 : decode cX11_close 72 = .ok (.iload 4, 2) := by decide +kernel
theorem dX11_close_74 : decode cX11_close 74 = .ok (.iload_n 3, 1) := by decide +kernel
theorem dX11_close_75 : decode cX11_close 75 = .ok (.if_icmp .gt 11, 3) := by decide +kernel
theorem dX11_close_78 : decode cX11_close 78 = .ok (.aload_n 0, 1) := by decide +kernel
theorem dX11_close_79 : decode cX11_close 79 = .ok (.iconst 5, 1) := by decide +kernel
theorem dX11_close_80 : decode cX11_close 80 = .ok (.iload 4, 2) := by decide +kernel
theorem dX11_close_82 : decode cX11_close 82 = .ok (.invokevirtual 275, 3) := by decide +kernel
theorem dX11_close_85 : decode cX11_close 85 = .ok (.ireturn, 1) := by decide +kernel
theorem dX11_close_86 : decode cX11_close 86 = .ok (.aload_n 0, 1) := by decide +kernel
theorem dX11_close_87 : decode cX11_close 87 = .ok (.aload_n 2, 1) := by decide +kernel
theorem dX11_close_88 : decode cX11_close 88 = .ok (.iload_n 3, 1) := by decide +kernel
theorem dX11_close_89 : decode cX11_close 89 = .ok (.invokevirtual 279, 3) := by decide +kernel
theorem dX11_close_92 : decode cX11_close 92 = .ok (.istore 5, 2) := by decide +kernel
theorem dX11_close_94 : decode cX11_close 94 = .ok (.iload 5, 2) := by decide +kernel
theorem dX11_close_96 : decode cX11_close 96 = .ok (.iconst (-1), 1) := by decide +kernel
theorem dX11_close_97 : decode cX11_close 97 = .ok (.if_icmp .eq 12, 3) := by decide +kernel
theorem dX11_close_100 : decode cX11_close 100 = .ok (.aload_n 0, 1) := by decide +kernel
theorem dX11_close_101 : decode cX11_close 101 = .ok (.bipush 7, 2) := by decide +kernel
theorem dX11_close_103 : decode cX11_close 103 = .ok (.iload 5, 2) := by decide +kernel
theorem dX11_close_105 : decode cX11_close 105 = .ok (.invokevirtual 275, 3) := by decide +kernel
theorem dX11_close_108 : decode cX11_close 108 = .ok (.ireturn, 1) := by decide +kernel
theorem dX11_close_109 : decode cX11_close 109 = .ok (.aload_n 2, 1) := by decide +kernel
theorem dX11_close_110 : decode cX11_close 110 = .ok (.getfield 283, 3) := by decide +kernel
theorem dX11_close_113 : decode cX11_close 113 = .ok (.aload_n 2, 1) := by decide +kernel
theorem dX11_close_114 : decode cX11_close 114 = .ok (.iload_n 3, 1) := by decide +kernel
theorem dX11_close_115 : decode cX11_close 115 = .ok (.invokevirtual 287, 3) := by decide +kernel
theorem dX11_close_118 : decode cX11_close 118 = .ok (.aload_n 0, 1) := by decide +kernel
theorem dX11_close_119 : decode cX11_close 119 = .ok (.aload_n 2, 1) := by decide +kernel
theorem dX11_close_120 : decode cX11_close 120 = .ok (.getfield 269, 3) := by decide +kernel
theorem dX11_close_123 : decode cX11_close 123 = .ok (.iconst 1, 1) := by decide +kernel
theorem dX11_close_124 : decode cX11_close 124 = .ok (.isub, 1) := by decide +kernel
theorem dX11_close_125 : decode cX11_close 125 = .ok (.invokevirtual 57, 3) := by decide +kernel
theorem dX11_close_128 : decode cX11_close 128 = .ok (.ireturn, 1) := by decide +kernel
theorem wd_621 : Cond.instantiable RX8 6 ∈ lw_good := mem_t4 17 (by decide +kernel) rfl
theorem wd_622 : Cond.code yX8_init cX8_init 1 none ∈ lw_good := mem_t4 20 rfl rfl
theorem wd_623 : Cond.instanceMethod yX8_init ∈ lw_good := mem_t4 19 (by decide +kernel) rfl
theorem wd_624 : Cond.methodLink RX0 30 yX8_begin ∈ lw_good := mem_t4 48 (by decide +kernel) rfl
theorem wd_625 : Cond.instanceMethod yX8_begin ∈ lw_good := mem_t4 49 (by decide +kernel) rfl
theorem wd_626 : Cond.selects RX8 yX8_begin yX8_begin ∈ lw_good := mem_t4 50 (by decide +kernel) rfl
theorem wd_627 : Cond.code yX8_begin cX8_begin 2 none ∈ lw_good := mem_t4 51 rfl rfl
theorem wd_628 : Cond.fieldLink RX0 90 RX2 "to" "I" ∈ lw_good := mem_t1 213 (by decide +kernel) rfl
theorem wd_629 : Cond.methodLink RX0 99 Lib.Math.max.name ∈ lw_good := mem_t4 4 (by decide +kernel) rfl
theorem wd_630 : Cond.methodLink RX0 109 yX0_append ∈ lw_good := mem_t4 13 (by decide +kernel) rfl
theorem wd_631 : Cond.instanceMethod yX0_append ∈ lw_good := mem_t4 14 (by decide +kernel) rfl
theorem wd_632 : Cond.selects RX0 yX0_append yX0_append ∈ lw_good := mem_t4 15 (by decide +kernel) rfl
theorem wd_633 : Cond.code yX0_append cX0_append 3 (some (.object "PartnersBook$Stretch")) ∈ lw_good := mem_t4 16 rfl rfl
theorem wd_634 : Cond.methodLink RX0 118 yX2_entriesOn ∈ lw_good := mem_t4 55 (by decide +kernel) rfl
theorem wd_635 : Cond.fieldLink RX0 122 RX2 "income" "[J" ∈ lw_good := mem_t1 237 (by decide +kernel) rfl
theorem wd_636 : Cond.methodLink RX0 105 yX2_isParted ∈ lw_good := mem_t4 5 (by decide +kernel) rfl
theorem wd_637 : Cond.instanceMethod yX2_isParted ∈ lw_good := mem_t4 6 (by decide +kernel) rfl
theorem wd_638 : Cond.selects RX2 yX2_isParted yX2_isParted ∈ lw_good := mem_t4 7 (by decide +kernel) rfl
theorem wd_639 : Cond.code yX2_isParted cX2_isParted 5 (some .boolean) ∈ lw_good := mem_t4 8 rfl rfl
theorem wd_640 : Cond.fieldLink RX0 77 RX2 "mends" "LPartnersBook$DaySums;" ∈ lw_good := mem_t2 7 (by decide +kernel) rfl
theorem wd_641 : Cond.methodLink RX0 42 yX0_partDays ∈ lw_good := mem_t4 0 (by decide +kernel) rfl
theorem wd_642 : Cond.instanceMethod yX0_partDays ∈ lw_good := mem_t4 2 (by decide +kernel) rfl
theorem wd_643 : Cond.selects RX0 yX0_partDays yX0_partDays ∈ lw_good := mem_p 10 (by decide +kernel) rfl
theorem wd_644 : Cond.code yX0_partDays cX0_partDays 5 none ∈ lw_good := mem_t4 3 rfl rfl
theorem wd_645 : Cond.methodLink RX0 46 yX0_cutLoose ∈ lw_good := mem_t4 63 (by decide +kernel) rfl
theorem wd_646 : Cond.instanceMethod yX0_cutLoose ∈ lw_good := mem_t4 65 (by decide +kernel) rfl
theorem wd_647 : Cond.selects RX0 yX0_cutLoose yX0_cutLoose ∈ lw_good := mem_p 11 (by decide +kernel) rfl
theorem wd_648 : Cond.code yX0_cutLoose cX0_cutLoose 4 none ∈ lw_good := mem_t4 66 rfl rfl
theorem wd_649 : Cond.methodLink RX0 50 yX0_settleStretches ∈ lw_good := mem_t4 94 (by decide +kernel) rfl
theorem wd_650 : Cond.instanceMethod yX0_settleStretches ∈ lw_good := mem_t4 96 (by decide +kernel) rfl
theorem wd_651 : Cond.selects RX0 yX0_settleStretches yX0_settleStretches ∈ lw_good := mem_p 13 (by decide +kernel) rfl
theorem wd_652 : Cond.code yX0_settleStretches cX0_settleStretches 7 none ∈ lw_good := mem_t4 97 rfl rfl
theorem wd_653 : Cond.methodLink RX0 53 yX0_settleMends ∈ lw_good := mem_t4 167 (by decide +kernel) rfl
theorem wd_654 : Cond.instanceMethod yX0_settleMends ∈ lw_good := mem_t4 169 (by decide +kernel) rfl
theorem wd_655 : Cond.selects RX0 yX0_settleMends yX0_settleMends ∈ lw_good := mem_p 21 (by decide +kernel) rfl
theorem wd_656 : Cond.code yX0_settleMends cX0_settleMends 5 none ∈ lw_good := mem_t4 170 rfl rfl
theorem wd_657 : Cond.methodLink RX0 56 yX0_bookDues ∈ lw_good := mem_t4 171 (by decide +kernel) rfl
theorem wd_658 : Cond.instanceMethod yX0_bookDues ∈ lw_good := mem_t4 173 (by decide +kernel) rfl
theorem wd_659 : Cond.selects RX0 yX0_bookDues yX0_bookDues ∈ lw_good := mem_p 22 (by decide +kernel) rfl
theorem wd_660 : Cond.code yX0_bookDues cX0_bookDues 6 none ∈ lw_good := mem_t4 174 rfl rfl
theorem wd_661 : Cond.fieldLink RX0 59 RX0 "nobodyOfAll" "J" ∈ lw_good := mem_t1 195 (by decide +kernel) rfl
theorem wd_662 : Cond.methodLink RX0 62 yX0_nobodyOfLatest ∈ lw_good := mem_t4 181 (by decide +kernel) rfl
theorem wd_663 : Cond.methodLink RX0 72 yX1_bookUpTo ∈ lw_good := mem_t4 185 (by decide +kernel) rfl
theorem wd_664 : Cond.instanceMethod yX1_bookUpTo ∈ lw_good := mem_t4 186 (by decide +kernel) rfl
theorem wd_665 : Cond.selects RX1 yX1_bookUpTo yX1_bookUpTo ∈ lw_good := mem_t4 187 (by decide +kernel) rfl
theorem wd_666 : Cond.code yX1_bookUpTo cX1_bookUpTo 5 none ∈ lw_good := mem_t4 188 rfl rfl
theorem wd_667 : Cond.fieldLink RX0 81 RX2 "undos" "LPartnersBook$UndoLog;" ∈ lw_good := mem_t2 10 (by decide +kernel) rfl
theorem wd_668 : Cond.methodLink RX0 85 yX10_clear ∈ lw_good := mem_t4 189 (by decide +kernel) rfl
theorem wd_669 : Cond.fieldLink RX0 93 RX2 "yearsClosed" "I" ∈ lw_good := mem_t1 219 (by decide +kernel) rfl
theorem wd_670 : Cond.methodLink RX0 96 yX0_handOver ∈ lw_good := mem_t4 190 (by decide +kernel) rfl
theorem wd_671 : Cond.instanceMethod yX0_handOver ∈ lw_good := mem_t4 192 (by decide +kernel) rfl
theorem wd_672 : Cond.selects RX0 yX0_handOver yX0_handOver ∈ lw_good := mem_p 23 (by decide +kernel) rfl
theorem wd_673 : Cond.code yX0_handOver cX0_handOver 5 none ∈ lw_good := mem_t4 193 rfl rfl
theorem wd_674 : Cond.methodLink RX11 272 yX2_firstOpenDay ∈ lw_good := mem_t3 221 (by decide +kernel) rfl
theorem wd_675 : Cond.methodLink RX11 279 yX11_firstHouseBehind ∈ lw_good := mem_t3 227 (by decide +kernel) rfl
theorem wd_676 : Cond.instanceMethod yX11_firstHouseBehind ∈ lw_good := mem_t3 229 (by decide +kernel) rfl
theorem wd_677 : Cond.selects RX11 yX11_firstHouseBehind yX11_firstHouseBehind ∈ lw_good := mem_p 9 (by decide +kernel) rfl
theorem wd_678 : Cond.code yX11_firstHouseBehind cX11_firstHouseBehind 5 (some .int) ∈ lw_good := mem_t3 230 rfl rfl
theorem wd_679 : Cond.methodLink RX11 287 yX0_closeYear ∈ lw_good := mem_t3 236 (by decide +kernel) rfl
theorem wd_680 : Cond.instanceMethod yX0_closeYear ∈ lw_good := mem_t3 237 (by decide +kernel) rfl
theorem wd_681 : Cond.selects RX0 yX0_closeYear yX0_closeYear ∈ lw_good := mem_t3 238 (by decide +kernel) rfl
theorem wd_682 : Cond.code yX0_closeYear cX0_closeYear 3 none ∈ lw_good := mem_t3 239 rfl rfl
set_option maxHeartbeats 4000000 in
set_option maxRecDepth 100000 in
theorem s_cutLoose_x (l : Launch) (D : va_G) (cy : Nat → ClassId) (K : Kp) (L : List Nat) (M : Hp) (sz : Nat) (oa : Nat) (k1 : Nat) (z0 : Int32) (z1 : Int32) (z2 : Int32) (z3 : Nat) (z4 : Nat) (z5 : Nat) (z6 : Nat) (z7 : Nat) (z8 : Nat) (z9 : Nat) (z10 : Nat) (z11 : Nat) (z12 : Nat) (z13 : Nat) (z14 : Int64) (z15 : Int32) (z16 : Nat) (z17 : Nat) (z18 : Nat) (z19 : Nat) (hW : WOK cy K L M) (ia : isk K L oa 0 0) (ik1 : isk K L k1 2 0) (hMz : M k1 = (b2_2 z0 z1 z2 z3 (nI z4) (nI z5) z6 z7 z8 (nI z9) z10 (nI z11) z12 z13 z14 z15 z16 z17 z18 z19)) (hz3 : isk K L z3 51 12) (hz4 : z4 ≤ 12) (hz5 : z5 ≤ 12) (hz6 : isk K L z6 52 6) (hz7 : isk K L z7 61 6) (hz8 : isk K L z8 62 24) (hz9 : z9 ≤ 24) (hz10 : isk K L z10 20 16) (hz11 : z11 ≤ 16) (hz12 : isk K L z12 18 1000) (hz13 : isk K L z13 67 1000) (hz16 : isk K L z16 1 0) (hz17 : isk K L z17 1 0) (hz18 : isk K L z18 10 0) (hz19 : isk K L z19 0 0) : Met l yX0_cutLoose (wsM yX0_cutLoose cX0_cutLoose 4 none) ({ frames := 2, cells := 0, slots := 0, locals := 55 }) (va_Pc [.ref oa, .ref k1] (PG D cy [] L M sz)) (va_Qv (fun (M9 : Hp) => WOK cy K L M9 ∧ fr K L [2, 7, 8, 64, 68, 69, 70] M M9 ∧ fT 2 K L [14] M M9 ∧ M9 k1 = (b2_2 z0 z1 z2 z3 (nI z4) (nI z5) z6 z7 z8 (nI z9) z10 (nI z11) z12 z13 0 z15 z16 z17 z18 z19) ∧ (True)) (fun M9 t => PQ D [] L M9 (va_A ([] ++ va_pl L M) sz) t) (va_A ([] ++ va_pl L M) sz)) 0 0 (va_A ([] ++ va_pl L M) sz) := by
  refine Met.ofW (cc := cX0_cutLoose) (maxL := 4) (ret := none) (by decide) rfl ?_
  intro p e s m args below meth c s₁ B hml hv
  obtain ⟨rfl, hsz, hP, hK, hD0, hN⟩ := hv
  have hx := B.exec
  have hb := B.bytes
  have hr := B.returns
  have hts := atoms_spec (ws := (wsM yX0_cutLoose cX0_cutLoose 4 none)) B.pre
  have hg : ∀ w ∈ lw_good, w.before _ s = true := fun w h => hts w (List.mem_cons_of_mem _ h)
  have hown : s.vm.findClass RX0 = some m.cls := findClass_of_methodNamed B.named
  have hlocks := B.notSynchronized
  subst hsz
  have hD := hD0.self (sz := s.heap.size)
  generalize hAe : va_A ([] ++ va_pl L M) s.heap.size = A at hD ⊢
  have hA : ∀ q : Nat, s.heap.size ≤ q → A q := fun q h => by rw [← hAe]; exact Or.inr h
  have hS : va_S A s.heap s.heap [] := va_S.rf
  have hl := lv_entry ([.ref oa, .ref k1]) (n := 4) (Nat.le_of_ble_eq_true rfl)
  rw [lg_entry_eq]
  generalize (lg_sl ([.ref oa, .ref k1]) ++ List.replicate (4 - (lg_sl ([.ref oa, .ref k1])).length) Slot.unset).toArray = ls at hl ⊢
  refine W.nameQ (fun Q hQ => ?_)
  refine W.nameR (fun R hR => ?_)
  have hRf : 2 ≤ R.frames := by rw [hR]; exact Nat.le_of_ble_eq_true rfl
  have hRl : 55 ≤ R.locals := by rw [hR]; exact Nat.le_of_ble_eq_true rfl
  have hRc : 0 ≤ R.cells := by rw [hR]; exact Nat.le_of_ble_eq_true rfl
  have hRs : 0 ≤ R.slots := by rw [hR]; exact Nat.le_of_ble_eq_true rfl
  have hF : fr K L [2, 7, 8, 64, 68, 69, 70] M M := fr.rf
  have hT2 : fT 2 K L [14] M M := fT.rf
  have hl : lv_has ls 4 [(0, .ref oa), (1, .ref k1)] := hl
  refine lv_aload_n hx hb dX0_cutLoose_0 rfl (lv_at hl 0 rfl) ?_
  obtain ⟨v1_0, v1_1, v1_2, v1_3, v1_4, hM1, h1_0, h1_1, h1_2, h1_3⟩ := hW.open_0 ia
  refine pg_get (D := D) (ci := 0) (v := .ref v1_2) (C := RX0) (T := TX0) (N := 5) hx hb hg inG0 hown hK hP ia.1 hM1 rfl 2 (by decide) (hg _ wd_207) (fun _ h9 => h9) rfl dX0_cutLoose_1 ?_
  obtain ⟨v2_0, v2_1, v2_2, v2_3, v2_4, v2_5, hM2, h2_0, h2_1, h2_2, h2_3, h2_4, h2_5⟩ := hW.open_7 h1_2
  have hPc : va_P D vwCl ([] ++ va_pl L M) s.heap := hP
  have hDc : va_D A ([] ++ va_pl L M) := hD
  have hFc : ∀ q, va_A ([] ++ va_pl L M) s.heap.size q → A q := pg_free hDc hS hA
  refine va_callv (va_runV (As := []) (rest := []) ⟨hx, hb, hml, hown, hg⟩ (s_X7_start l D cy K L M s.heap.size v1_2  hW h1_2) (cwV 0 hg (gV wd_208 wd_209 wd_210 wd_148 wd_211) rfl rfl rfl (by decide +kernel) ⟨(Nat.le_trans (Nat.le_of_ble_eq_true rfl) hRf), (Nat.le_trans (Nat.le_of_ble_eq_true rfl) hRl)⟩) ⟨PG.blind, pg_recv hK hP h1_2.1 hM2 rfl, fun U hU hW => ⟨rfl, PG.at hPc hK hDc hN hU hW⟩⟩ rfl rfl hl.1 rfl (lv_room (Nat.le_of_ble_eq_true rfl)) dX0_cutLoose_4 ⟨(Nat.le_trans (Nat.le_of_ble_eq_true rfl) hRc), (Nat.le_trans (Nat.le_of_ble_eq_true rfl) hRs)⟩) hS (fun q _ h => hFc q h) hFc (fun M_5 t H_3 locs ht hvm hw hB hz1 hk1 hS => ?_)
  obtain ⟨hW, hF2, hp_6⟩ := hw
  obtain ⟨hP1, hD1⟩ := hB
  rw [ht] at hP1
  have hP : va_P D vwCl ([] ++ va_pl L M_5) H_3 := hP1
  have hD : va_D A ([] ++ va_pl L M_5) := hD1.mono hFc
  have hM_7 : M_5 k1 = (b2_2 z0 z1 z2 z3 (nI z4) (nI z5) z6 z7 z8 (nI z9) z10 (nI z11) z12 z13 z14 z15 z16 z17 z18 z19) := (hF2.at ik1 (by decide)).trans hMz
  have hM_8 : M_5 oa = (b0_7 v1_0 v1_1 v1_2 (nI v1_3) v1_4) := (hF2.at ia (by decide)).trans hM1
  have hF : fr K L [2, 7, 8, 64, 68, 69, 70] M M_5 := hF.tr hF2 (by decide)
  have hT2 : fT 2 K L [14] M M_5 := hT2.frr hF2 (by decide)
  refine lv_iconst (v := 0) hx hb dX0_cutLoose_7 (by decide) ?_
  refine lv_istore_n (lv' := [(2, .int 0), (0, .ref oa), (1, .ref k1)]) hx hb dX0_cutLoose_8 rfl hl (by decide) rfl (fun ls hl => ?_)
  have key_9 : ∀ (fu_11 : Nat) (v2w12 : Nat) (M_14 : Hp) (H_15 : Heap) (locs : List Loc) (ls : Array Slot), 120 - v2w12 < fu_11 → M_14 k1 = (b2_2 z0 z1 z2 z3 (nI z4) (nI z5) z6 z7 z8 (nI z9) z10 (nI z11) z12 z13 z14 z15 z16 z17 z18 z19) → v2w12 ≤ 120 → WOK cy K L M_14 → fr K L [2, 7, 8, 64, 68, 69, 70] M M_14 → fT 2 K L [14] M M_14 → va_P D vwCl ([] ++ va_pl L M_14) H_15 → va_D A ([] ++ va_pl L M_14) → va_S A s.heap H_15 locs → lv_has ls 4 [(2, .int (nI v2w12)), (0, .ref oa), (1, .ref k1)] → W p l e R s m ([.ref oa, .ref k1] : List Value).toArray below meth c H_15 locs 0 0 Q (F0 m 9 ls []) := by
    intro fu_11
    induction fu_11 with
    | zero => intro v2w12 M_14 H_15 locs ls h; exact absurd h (Nat.not_lt_zero _)
    | succ fu_11 ih_10 =>
      intro v2w12 M_14 H_15 locs ls hfu hM_16 hx_13 hW hF hT2 hP hD hS hl
      refine lv_iload_n hx hb dX0_cutLoose_9 rfl (lv_at hl 0 rfl) ?_
      refine lv_aload_n hx hb dX0_cutLoose_10 rfl (lv_at hl 1 rfl) ?_
      obtain ⟨v17_0, v17_1, v17_2, v17_3, v17_4, hM17, h17_0, h17_1, h17_2, h17_3⟩ := hW.open_0 ia
      refine pg_get (D := D) (ci := 0) (v := .int (nI v17_3)) (C := RX0) (T := TX0) (N := 5) hx hb hg inG0 hown hK hP ia.1 hM17 rfl 3 (by decide) (hg _ wd_199) (fun _ h9 => h9) rfl dX0_cutLoose_11 ?_
      refine lv_icmp_ge (tgt := 50) hx hb dX0_cutLoose_14 (by decide) (fun c_18 => ?_) (fun c_18 => ?_)
      · have hz := rfl (a := 0)
        have n_19 : v17_3 ≤ v2w12 := (iLE (a := v17_3) (b := v2w12) (by omega) (by omega)).mp c_18
        refine lv_aload_n hx hb dX0_cutLoose_50 rfl (lv_at hl 1 rfl) ?_
        refine pg_get (D := D) (ci := 0) (v := .ref v17_2) (C := RX0) (T := TX0) (N := 5) hx hb hg inG0 hown hK hP ia.1 hM17 rfl 2 (by decide) (hg _ wd_207) (fun _ h9 => h9) rfl dX0_cutLoose_51 ?_
        refine lv_aload_n hx hb dX0_cutLoose_54 rfl (lv_at hl 2 rfl) ?_
        refine pg_get (D := D) (ci := 2) (v := .long z14) (C := RX2) (T := TX2) (N := 20) hx hb hg inG2 hown hK hP ik1.1 hM_16 rfl 14 (by decide) (hg _ wd_276) (fun _ h9 => h9) rfl dX0_cutLoose_55 ?_
        obtain ⟨v20_0, v20_1, v20_2, v20_3, v20_4, v20_5, hM20, h20_0, h20_1, h20_2, h20_3, h20_4, h20_5⟩ := hW.open_7 h17_2
        have hPc : va_P D vwCl ([] ++ va_pl L M_14) H_15 := hP
        have hDc : va_D A ([] ++ va_pl L M_14) := hD
        have hFc : ∀ q, va_A ([] ++ va_pl L M_14) H_15.size q → A q := pg_free hDc hS hA
        refine va_calll (va_runV (As := [.long z14]) (rest := []) ⟨hx, hb, hml, hown, hg⟩ (s_X7_cut l D cy K L M_14 H_15.size v17_2 z14  hW h17_2) (cwV 1 hg (gV wd_243 wd_162 wd_163 wd_148 wd_164) rfl rfl rfl (by decide +kernel) ⟨(Nat.le_trans (Nat.le_of_ble_eq_true rfl) hRf), (Nat.le_trans (Nat.le_of_ble_eq_true rfl) hRl)⟩) ⟨PG.blind, pg_recv hK hP h17_2.1 hM20 rfl, fun U hU hW => ⟨rfl, PG.at hPc hK hDc hN hU hW⟩⟩ rfl rfl hl.1 rfl (lv_room (Nat.le_of_ble_eq_true rfl)) dX0_cutLoose_58 ⟨(Nat.le_trans (Nat.le_of_ble_eq_true rfl) hRc), (Nat.le_trans (Nat.le_of_ble_eq_true rfl) hRs)⟩) hS (fun q _ h => hFc q h) hFc (fun r_22 M_23 t H_21 locs ht hvm hw hB hz1 hk1 hS => ?_)
        obtain ⟨hW, hF2, hp_24⟩ := hw
        obtain ⟨hP1, hD1⟩ := hB
        rw [ht] at hP1
        have hP : va_P D vwCl ([] ++ va_pl L M_23) H_21 := hP1
        have hD : va_D A ([] ++ va_pl L M_23) := hD1.mono hFc
        have hM_25 : M_23 k1 = (b2_2 z0 z1 z2 z3 (nI z4) (nI z5) z6 z7 z8 (nI z9) z10 (nI z11) z12 z13 z14 z15 z16 z17 z18 z19) := (hF2.at ik1 (by decide)).trans hM_16
        have hM_26 : M_23 oa = (b0_7 v17_0 v17_1 v17_2 (nI v17_3) v17_4) := (hF2.at ia (by decide)).trans hM17
        have hM_27 : M_23 v17_2 = (b7_8 v20_0 v20_1 v20_2 v20_3 v20_4 (nI v20_5)) := (hF2.at h17_2 (by decide)).trans hM20
        have hF : fr K L [2, 7, 8, 64, 68, 69, 70] M M_23 := hF.tr hF2 (by decide)
        have hT2 : fT 2 K L [14] M M_23 := hT2.frr hF2 (by decide)
        refine lv_pop2_2 hx hb dX0_cutLoose_61 rfl ?_
        refine lv_aload_n hx hb dX0_cutLoose_62 rfl (lv_at hl 2 rfl) ?_
        refine lv_lconst (v := 0) hx hb dX0_cutLoose_63 (by decide) ?_
        refine pg_put (D := D) (ci := 2) (v := .long 0) (ty := .long) (C := RX2) (T := TX2) (N := 20) hx hb hg inG2 tyX2 tyX2_ok nmX2 hown hK hP hD hS ik1.1 hM_25 rfl 14 (by decide) (hg _ wd_276) (fun _ h9 => h9) rfl (by decide +kernel) rfl rfl (Nat.le_of_ble_eq_true rfl) dX0_cutLoose_64 (fun H_28 locs hP hD hS => ?_)
        obtain ⟨M_29, eM_29⟩ : ∃ M1 : Hp, M1 = va_up M_23 k1 ((b2_2 z0 z1 z2 z3 (nI z4) (nI z5) z6 z7 z8 (nI z9) z10 (nI z11) z12 z13 0 z15 z16 z17 z18 z19)) := ⟨_, rfl⟩
        have hP : va_P D vwCl ([] ++ va_pl L M_29) H_28 := by rw [eM_29]; exact hP
        have hD : va_D A ([] ++ va_pl L M_29) := by rw [eM_29]; exact hD
        have hW : WOK cy K L M_29 := by rw [eM_29]; exact hW.up_2 ik1 ⟨z0, z1, z2, z3, z4, z5, z6, z7, z8, z9, z10, z11, z12, z13, 0, z15, z16, z17, z18, z19, rfl, hz3, hz4, hz5, hz6, hz7, hz8, hz9, hz10, hz11, hz12, hz13, hz16, hz17, hz18, hz19⟩
        have hF : fr K L [2, 7, 8, 64, 68, 69, 70] M M_29 := by rw [eM_29]; exact hF.up ik1 (by decide)
        have hT2 : fT 2 K L [14] M M_29 := by rw [eM_29]; exact hT2.up (i := 14) hM_25 rfl (by decide)
        have hM_30 : M_29 k1 = (b2_2 z0 z1 z2 z3 (nI z4) (nI z5) z6 z7 z8 (nI z9) z10 (nI z11) z12 z13 0 z15 z16 z17 z18 z19) := by rw [eM_29]; exact va_up_self _ _ _
        have hM_31 : M_29 oa = (b0_7 v17_0 v17_1 v17_2 (nI v17_3) v17_4) := by rw [eM_29, va_up_ne _ _ (ia.neT ik1 (by decide))]; exact hM_26
        have hM_32 : M_29 v17_2 = (b7_8 v20_0 v20_1 v20_2 v20_3 v20_4 (nI v20_5)) := by rw [eM_29, va_up_ne _ _ (h17_2.neT ik1 (by decide))]; exact hM_27
        refine lv_iconst (v := 0) hx hb dX0_cutLoose_67 (by decide) ?_
        refine lv_istore_n (lv' := [(2, .int 0), (0, .ref oa), (1, .ref k1)]) hx hb dX0_cutLoose_68 rfl hl (by decide) rfl (fun ls hl => ?_)
        have key_33 : ∀ (fu_35 : Nat) (v2w36 : Nat) (M_38 : Hp) (H_39 : Heap) (locs : List Loc) (ls : Array Slot), 120 - v2w36 < fu_35 → M_38 k1 = (b2_2 z0 z1 z2 z3 (nI z4) (nI z5) z6 z7 z8 (nI z9) z10 (nI z11) z12 z13 0 z15 z16 z17 z18 z19) → v2w36 ≤ 120 → WOK cy K L M_38 → fr K L [2, 7, 8, 64, 68, 69, 70] M M_38 → fT 2 K L [14] M M_38 → va_P D vwCl ([] ++ va_pl L M_38) H_39 → va_D A ([] ++ va_pl L M_38) → va_S A s.heap H_39 locs → lv_has ls 4 [(2, .int (nI v2w36)), (0, .ref oa), (1, .ref k1)] → W p l e R s m ([.ref oa, .ref k1] : List Value).toArray below meth c H_39 locs 0 0 Q (F0 m 69 ls []) := by
          intro fu_35
          induction fu_35 with
          | zero => intro v2w36 M_38 H_39 locs ls h; exact absurd h (Nat.not_lt_zero _)
          | succ fu_35 ih_34 =>
            intro v2w36 M_38 H_39 locs ls hfu hM_40 hx_37 hW hF hT2 hP hD hS hl
            refine lv_iload_n hx hb dX0_cutLoose_69 rfl (lv_at hl 0 rfl) ?_
            refine lv_aload_n hx hb dX0_cutLoose_70 rfl (lv_at hl 1 rfl) ?_
            obtain ⟨v41_0, v41_1, v41_2, v41_3, v41_4, hM41, h41_0, h41_1, h41_2, h41_3⟩ := hW.open_0 ia
            refine pg_get (D := D) (ci := 0) (v := .ref v41_2) (C := RX0) (T := TX0) (N := 5) hx hb hg inG0 hown hK hP ia.1 hM41 rfl 2 (by decide) (hg _ wd_207) (fun _ h9 => h9) rfl dX0_cutLoose_71 ?_
            obtain ⟨v42_0, v42_1, v42_2, v42_3, v42_4, v42_5, hM42, h42_0, h42_1, h42_2, h42_3, h42_4, h42_5⟩ := hW.open_7 h41_2
            refine pg_get (D := D) (ci := 7) (v := .int (nI v42_5)) (C := RX7) (T := TX7) (N := 6) hx hb hg inG7 hown hK hP h41_2.1 hM42 rfl 5 (by decide) (hg _ wd_277) (fun _ h9 => h9) rfl dX0_cutLoose_74 ?_
            refine lv_icmp_ge (tgt := 114) hx hb dX0_cutLoose_77 (by decide) (fun c_43 => ?_) (fun c_43 => ?_)
            · have hz := rfl (a := 0)
              have n_44 : v42_5 ≤ v2w36 := (iLE (a := v42_5) (b := v2w36) (by omega) (by omega)).mp c_43
              rw [hQ]
              exact W.vret hx hb hr (fun t ht hW9 => ⟨⟨M_38, rfl, ⟨hW, hF, hT2, hM_40, trivial⟩, ⟨by rw [ht]; exact hP, hD⟩⟩, hS.F ht⟩) hS.2.2 dX0_cutLoose_114
            · have hz := rfl (a := 0)
              have n_45 : ¬ (v42_5 ≤ v2w36) := fun q => c_43 ((iLE (a := v42_5) (b := v2w36) (by omega) (by omega)).mpr q)
              refine lv_aload_n hx hb dX0_cutLoose_80 rfl (lv_at hl 1 rfl) ?_
              refine lv_iload_n hx hb dX0_cutLoose_81 rfl (lv_at hl 0 rfl) ?_
              have hPc : va_P D vwCl ([] ++ va_pl L M_38) H_39 := hP
              have hDc : va_D A ([] ++ va_pl L M_38) := hD
              have hFc : ∀ q, va_A ([] ++ va_pl L M_38) H_39.size q → A q := pg_free hDc hS hA
              refine va_callq (va_runV (As := [.int (nI v2w36)]) (rest := []) ⟨hx, hb, hml, hown, hg⟩ (s_X0_at l D cy K L M_38 H_39.size oa (nI v2w36)  hW ia) (cwV 1 hg (gV wd_201 wd_202 wd_203 wd_204 wd_205) rfl rfl rfl (by decide +kernel) ⟨(Nat.le_trans (Nat.le_of_ble_eq_true rfl) hRf), (Nat.le_trans (Nat.le_of_ble_eq_true rfl) hRl)⟩) ⟨PG.blind, pg_recv hK hP ia.1 hM41 rfl, fun U hU hW => ⟨rfl, PG.at hPc hK hDc hN hU hW⟩⟩ rfl rfl hl.1 rfl (lv_room (Nat.le_of_ble_eq_true rfl)) dX0_cutLoose_82 ⟨(Nat.le_trans (Nat.le_of_ble_eq_true rfl) hRc), (Nat.le_trans (Nat.le_of_ble_eq_true rfl) hRs)⟩) hS (fun q _ h => hFc q h) hFc (fun r_47 M_48 t H_46 locs ht hvm hw hB hz1 hk1 hS => ?_)
              have hp_49 := hw
              obtain ⟨hP1, hD1⟩ := hB
              rw [ht] at hP1
              have hP : va_P D vwCl ([] ++ va_pl L M_38) H_46 := hP1
              have hD : va_D A ([] ++ va_pl L M_38) := hD1.mono hFc
              rcases r_47 with _ | b_50
              · have hz := rfl (a := 0)
                refine lv_astore_nN (lv' := [(3, .null), (2, .int (nI v2w36)), (0, .ref oa), (1, .ref k1)]) hx hb dX0_cutLoose_85 rfl hl (by decide) rfl (fun ls hl => ?_)
                refine lv_aload_nN hx hb dX0_cutLoose_86 rfl (lv_at hl 0 rfl) ?_
                refine lv_ifnullN (tgt := 108) hx hb dX0_cutLoose_87 (by decide) ?_
                refine lv_iinc (v := (nI (v2w36 + 1))) (lv' := [(2, .int (nI (v2w36 + 1))), (3, .null), (0, .ref oa), (1, .ref k1)]) hx hb dX0_cutLoose_108 hl (k := 1) rfl (nI_1 v2w36) (by decide) rfl (fun ls hl => ?_)
                refine lv_goto (tgt := 69) hx hb dX0_cutLoose_111 (by decide) ?_
                exact ih_34 (v2w36 + 1) M_38 H_46 _ _ (by omega) hM_40 (by omega) hW hF hT2 hP hD hS (lv_sub hl [0, 2, 3] rfl)
              · have hb_51 := hp_49 b_50 rfl
                refine lv_astore_n (lv' := [(3, .ref b_50), (2, .int (nI v2w36)), (0, .ref oa), (1, .ref k1)]) hx hb dX0_cutLoose_85 rfl hl (by decide) rfl (fun ls hl => ?_)
                refine lv_aload_n hx hb dX0_cutLoose_86 rfl (lv_at hl 0 rfl) ?_
                refine lv_ifnull hx hb dX0_cutLoose_87 ?_
                refine lv_aload_n hx hb dX0_cutLoose_90 rfl (lv_at hl 0 rfl) ?_
                refine lv_dup hx hb dX0_cutLoose_91 rfl ?_
                obtain ⟨v52_0, v52_1, v52_2, v52_3, v52_4, v52_5, hM52, h52_0, h52_1⟩ := hW.open_8 hb_51
                refine pg_get (D := D) (ci := 8) (v := .long v52_4) (C := RX8) (T := TX8) (N := 6) hx hb hg inG8 hown hK hP hb_51.1 hM52 rfl 4 (by decide) (hg _ wd_255) (fun _ h9 => h9) rfl dX0_cutLoose_92 ?_
                refine lv_aload_n hx hb dX0_cutLoose_95 rfl (lv_at hl 2 rfl) ?_
                refine pg_get (D := D) (ci := 0) (v := .ref v41_2) (C := RX0) (T := TX0) (N := 5) hx hb hg inG0 hown hK hP ia.1 hM41 rfl 2 (by decide) (hg _ wd_207) (fun _ h9 => h9) rfl dX0_cutLoose_96 ?_
                refine pg_get (D := D) (ci := 7) (v := .ref v42_2) (C := RX7) (T := TX7) (N := 6) hx hb hg inG7 hown hK hP h41_2.1 hM42 rfl 2 (by decide) (hg _ wd_244) (fun _ h9 => h9) rfl dX0_cutLoose_99 ?_
                refine lv_iload_n hx hb dX0_cutLoose_102 rfl (lv_at hl 1 rfl) ?_
                obtain ⟨f53, hM53⟩ := hW.open_69 h42_2
                refine pg_lald hx hb hK hP h42_2.1 1 hM53 rfl (inbN v2w36 100 (by omega) (by omega)) dX0_cutLoose_103 ?_
                refine lv_topl (fun f_54 ef_54 => ?_)
                refine lv_ladd hx hb dX0_cutLoose_104 ?_
                refine lv_topl (fun f_55 ef_55 => ?_)
                refine pg_put (D := D) (ci := 8) (v := .long f_55) (ty := .long) (C := RX8) (T := TX8) (N := 6) hx hb hg inG8 tyX8 tyX8_ok nmX8 hown hK hP hD hS hb_51.1 hM52 rfl 4 (by decide) (hg _ wd_255) (fun _ h9 => h9) rfl (by decide +kernel) rfl rfl (Nat.le_of_ble_eq_true rfl) dX0_cutLoose_105 (fun H_56 locs hP hD hS => ?_)
                obtain ⟨M_57, eM_57⟩ : ∃ M1 : Hp, M1 = va_up M_38 b_50 ((b8_11 v52_0 v52_1 v52_2 v52_3 f_55 v52_5)) := ⟨_, rfl⟩
                have hP : va_P D vwCl ([] ++ va_pl L M_57) H_56 := by rw [eM_57]; exact hP
                have hD : va_D A ([] ++ va_pl L M_57) := by rw [eM_57]; exact hD
                have hW : WOK cy K L M_57 := by rw [eM_57]; exact hW.up_8 hb_51 ⟨v52_0, v52_1, v52_2, v52_3, f_55, v52_5, rfl, h52_0, h52_1⟩
                have hF : fr K L [2, 7, 8, 64, 68, 69, 70] M M_57 := by rw [eM_57]; exact hF.up hb_51 (by decide)
                have hT2 : fT 2 K L [14] M M_57 := by rw [eM_57]; exact hT2.ne hb_51 (by decide)
                have hM_58 : M_57 b_50 = (b8_11 v52_0 v52_1 v52_2 v52_3 f_55 v52_5) := by rw [eM_57]; exact va_up_self _ _ _
                have hM_59 : M_57 k1 = (b2_2 z0 z1 z2 z3 (nI z4) (nI z5) z6 z7 z8 (nI z9) z10 (nI z11) z12 z13 0 z15 z16 z17 z18 z19) := by rw [eM_57, va_up_ne _ _ (ik1.neT hb_51 (by decide))]; exact hM_40
                have hM_60 : M_57 oa = (b0_7 v41_0 v41_1 v41_2 (nI v41_3) v41_4) := by rw [eM_57, va_up_ne _ _ (ia.neT hb_51 (by decide))]; exact hM41
                have hM_61 : M_57 v41_2 = (b7_8 v42_0 v42_1 v42_2 v42_3 v42_4 (nI v42_5)) := by rw [eM_57, va_up_ne _ _ (h41_2.neT hb_51 (by decide))]; exact hM42
                have hM_62 : M_57 v42_2 = .inl (cy 15, 100, .inr (.inl (f53))) := by rw [eM_57, va_up_ne _ _ (h42_2.neT hb_51 (by decide))]; exact hM53
                refine lv_iinc (v := (nI (v2w36 + 1))) (lv' := [(2, .int (nI (v2w36 + 1))), (3, .ref b_50), (0, .ref oa), (1, .ref k1)]) hx hb dX0_cutLoose_108 hl (k := 1) rfl (nI_1 v2w36) (by decide) rfl (fun ls hl => ?_)
                refine lv_goto (tgt := 69) hx hb dX0_cutLoose_111 (by decide) ?_
                exact ih_34 (v2w36 + 1) M_57 H_56 _ _ (by omega) hM_59 (by omega) hW hF hT2 hP hD hS (lv_sub hl [0, 2, 3] rfl)
        exact key_33 (120 - 0 + 1) 0 M_29 H_28 _ _ (by omega) hM_30 (by omega) hW hF hT2 hP hD hS (lv_sub hl [0, 1, 2] rfl)
      · have hz := rfl (a := 0)
        have n_63 : ¬ (v17_3 ≤ v2w12) := fun q => c_18 ((iLE (a := v17_3) (b := v2w12) (by omega) (by omega)).mpr q)
        refine lv_aload_n hx hb dX0_cutLoose_17 rfl (lv_at hl 1 rfl) ?_
        refine lv_iload_n hx hb dX0_cutLoose_18 rfl (lv_at hl 0 rfl) ?_
        have hPc : va_P D vwCl ([] ++ va_pl L M_14) H_15 := hP
        have hDc : va_D A ([] ++ va_pl L M_14) := hD
        have hFc : ∀ q, va_A ([] ++ va_pl L M_14) H_15.size q → A q := pg_free hDc hS hA
        refine va_callq (va_runV (As := [.int (nI v2w12)]) (rest := []) ⟨hx, hb, hml, hown, hg⟩ (s_X0_at l D cy K L M_14 H_15.size oa (nI v2w12)  hW ia) (cwV 1 hg (gV wd_201 wd_202 wd_203 wd_204 wd_205) rfl rfl rfl (by decide +kernel) ⟨(Nat.le_trans (Nat.le_of_ble_eq_true rfl) hRf), (Nat.le_trans (Nat.le_of_ble_eq_true rfl) hRl)⟩) ⟨PG.blind, pg_recv hK hP ia.1 hM17 rfl, fun U hU hW => ⟨rfl, PG.at hPc hK hDc hN hU hW⟩⟩ rfl rfl hl.1 rfl (lv_room (Nat.le_of_ble_eq_true rfl)) dX0_cutLoose_19 ⟨(Nat.le_trans (Nat.le_of_ble_eq_true rfl) hRc), (Nat.le_trans (Nat.le_of_ble_eq_true rfl) hRs)⟩) hS (fun q _ h => hFc q h) hFc (fun r_65 M_66 t H_64 locs ht hvm hw hB hz1 hk1 hS => ?_)
        have hp_67 := hw
        obtain ⟨hP1, hD1⟩ := hB
        rw [ht] at hP1
        have hP : va_P D vwCl ([] ++ va_pl L M_14) H_64 := hP1
        have hD : va_D A ([] ++ va_pl L M_14) := hD1.mono hFc
        rcases r_65 with _ | b_68
        · have hz := rfl (a := 0)
          refine lv_astore_nN (lv' := [(3, .null), (2, .int (nI v2w12)), (0, .ref oa), (1, .ref k1)]) hx hb dX0_cutLoose_22 rfl hl (by decide) rfl (fun ls hl => ?_)
          refine lv_aload_n hx hb dX0_cutLoose_23 rfl (lv_at hl 2 rfl) ?_
          refine pg_get (D := D) (ci := 0) (v := .ref v17_2) (C := RX0) (T := TX0) (N := 5) hx hb hg inG0 hown hK hP ia.1 hM17 rfl 2 (by decide) (hg _ wd_207) (fun _ h9 => h9) rfl dX0_cutLoose_24 ?_
          refine lv_null hx hb dX0_cutLoose_27 ?_
          refine lv_aload_nN hx hb dX0_cutLoose_28 rfl (lv_at hl 0 rfl) ?_
          refine lv_ifnonnullN hx hb dX0_cutLoose_29 ?_
          refine lv_lconst (v := 0) hx hb dX0_cutLoose_32 (by decide) ?_
          refine lv_goto (tgt := 41) hx hb dX0_cutLoose_33 (by decide) ?_
          obtain ⟨v69_0, v69_1, v69_2, v69_3, v69_4, v69_5, hM69, h69_0, h69_1, h69_2, h69_3, h69_4, h69_5⟩ := hW.open_7 h17_2
          have hPc : va_P D vwCl ([] ++ va_pl L M_14) H_64 := hP
          have hDc : va_D A ([] ++ va_pl L M_14) := hD
          have hFc : ∀ q, va_A ([] ++ va_pl L M_14) H_64.size q → A q := pg_free hDc hS hA
          refine va_callv (va_runV (As := [.null, .long 0]) (rest := []) ⟨hx, hb, hml, hown, hg⟩ (s_X7_add_n l D cy K L M_14 H_64.size v17_2 0  hW h17_2) (cwV 2 hg (gV wd_213 wd_214 wd_215 wd_148 wd_216) rfl rfl rfl (by decide +kernel) ⟨(Nat.le_trans (Nat.le_of_ble_eq_true rfl) hRf), (Nat.le_trans (Nat.le_of_ble_eq_true rfl) hRl)⟩) ⟨PG.blind, pg_recv hK hP h17_2.1 hM69 rfl, fun U hU hW => ⟨rfl, PG.at hPc hK hDc hN hU hW⟩⟩ rfl rfl hl.1 rfl (lv_room (Nat.le_of_ble_eq_true rfl)) dX0_cutLoose_41 ⟨(Nat.le_trans (Nat.le_of_ble_eq_true rfl) hRc), (Nat.le_trans (Nat.le_of_ble_eq_true rfl) hRs)⟩) hS (fun q _ h => hFc q h) hFc (fun M_72 t H_70 locs ht hvm hw hB hz1 hk1 hS => ?_)
          obtain ⟨hW, hF2, hp_73⟩ := hw
          obtain ⟨hP1, hD1⟩ := hB
          rw [ht] at hP1
          have hP : va_P D vwCl ([] ++ va_pl L M_72) H_70 := hP1
          have hD : va_D A ([] ++ va_pl L M_72) := hD1.mono hFc
          have hM_74 : M_72 k1 = (b2_2 z0 z1 z2 z3 (nI z4) (nI z5) z6 z7 z8 (nI z9) z10 (nI z11) z12 z13 z14 z15 z16 z17 z18 z19) := (hF2.at ik1 (by decide)).trans hM_16
          have hM_75 : M_72 oa = (b0_7 v17_0 v17_1 v17_2 (nI v17_3) v17_4) := (hF2.at ia (by decide)).trans hM17
          have hF : fr K L [2, 7, 8, 64, 68, 69, 70] M M_72 := hF.tr hF2 (by decide)
          have hT2 : fT 2 K L [14] M M_72 := hT2.frr hF2 (by decide)
          refine lv_iinc (v := (nI (v2w12 + 1))) (lv' := [(2, .int (nI (v2w12 + 1))), (3, .null), (0, .ref oa), (1, .ref k1)]) hx hb dX0_cutLoose_44 hl (k := 1) rfl (nI_1 v2w12) (by decide) rfl (fun ls hl => ?_)
          refine lv_goto (tgt := 9) hx hb dX0_cutLoose_47 (by decide) ?_
          exact ih_10 (v2w12 + 1) M_72 H_70 _ _ (by omega) hM_74 (by omega) hW hF hT2 hP hD hS (lv_sub hl [0, 2, 3] rfl)
        · have hb_76 := hp_67 b_68 rfl
          refine lv_astore_n (lv' := [(3, .ref b_68), (2, .int (nI v2w12)), (0, .ref oa), (1, .ref k1)]) hx hb dX0_cutLoose_22 rfl hl (by decide) rfl (fun ls hl => ?_)
          refine lv_aload_n hx hb dX0_cutLoose_23 rfl (lv_at hl 2 rfl) ?_
          refine pg_get (D := D) (ci := 0) (v := .ref v17_2) (C := RX0) (T := TX0) (N := 5) hx hb hg inG0 hown hK hP ia.1 hM17 rfl 2 (by decide) (hg _ wd_207) (fun _ h9 => h9) rfl dX0_cutLoose_24 ?_
          refine lv_null hx hb dX0_cutLoose_27 ?_
          refine lv_aload_n hx hb dX0_cutLoose_28 rfl (lv_at hl 0 rfl) ?_
          refine lv_ifnonnull (tgt := 36) hx hb dX0_cutLoose_29 (by decide) ?_
          refine lv_aload_n hx hb dX0_cutLoose_36 rfl (lv_at hl 0 rfl) ?_
          obtain ⟨v77_0, v77_1, v77_2, v77_3, v77_4, v77_5, hM77, h77_0, h77_1⟩ := hW.open_8 hb_76
          refine pg_get (D := D) (ci := 8) (v := .int v77_3) (C := RX8) (T := TX8) (N := 6) hx hb hg inG8 hown hK hP hb_76.1 hM77 rfl 3 (by decide) (hg _ wd_220) (fun _ h9 => h9) rfl dX0_cutLoose_37 ?_
          refine lv_i2l hx hb dX0_cutLoose_40 rfl ?_
          refine lv_topl (fun f_78 ef_78 => ?_)
          obtain ⟨v79_0, v79_1, v79_2, v79_3, v79_4, v79_5, hM79, h79_0, h79_1, h79_2, h79_3, h79_4, h79_5⟩ := hW.open_7 h17_2
          have hPc : va_P D vwCl ([] ++ va_pl L M_14) H_64 := hP
          have hDc : va_D A ([] ++ va_pl L M_14) := hD
          have hFc : ∀ q, va_A ([] ++ va_pl L M_14) H_64.size q → A q := pg_free hDc hS hA
          refine va_callv (va_runV (As := [.null, .long f_78]) (rest := []) ⟨hx, hb, hml, hown, hg⟩ (s_X7_add_n l D cy K L M_14 H_64.size v17_2 f_78  hW h17_2) (cwV 2 hg (gV wd_213 wd_214 wd_215 wd_148 wd_216) rfl rfl rfl (by decide +kernel) ⟨(Nat.le_trans (Nat.le_of_ble_eq_true rfl) hRf), (Nat.le_trans (Nat.le_of_ble_eq_true rfl) hRl)⟩) ⟨PG.blind, pg_recv hK hP h17_2.1 hM79 rfl, fun U hU hW => ⟨rfl, PG.at hPc hK hDc hN hU hW⟩⟩ rfl rfl hl.1 rfl (lv_room (Nat.le_of_ble_eq_true rfl)) dX0_cutLoose_41 ⟨(Nat.le_trans (Nat.le_of_ble_eq_true rfl) hRc), (Nat.le_trans (Nat.le_of_ble_eq_true rfl) hRs)⟩) hS (fun q _ h => hFc q h) hFc (fun M_82 t H_80 locs ht hvm hw hB hz1 hk1 hS => ?_)
          obtain ⟨hW, hF2, hp_83⟩ := hw
          obtain ⟨hP1, hD1⟩ := hB
          rw [ht] at hP1
          have hP : va_P D vwCl ([] ++ va_pl L M_82) H_80 := hP1
          have hD : va_D A ([] ++ va_pl L M_82) := hD1.mono hFc
          have hM_84 : M_82 k1 = (b2_2 z0 z1 z2 z3 (nI z4) (nI z5) z6 z7 z8 (nI z9) z10 (nI z11) z12 z13 z14 z15 z16 z17 z18 z19) := (hF2.at ik1 (by decide)).trans hM_16
          have hM_85 : M_82 oa = (b0_7 v17_0 v17_1 v17_2 (nI v17_3) v17_4) := (hF2.at ia (by decide)).trans hM17
          have hM_86 : M_82 b_68 = (b8_11 v77_0 v77_1 v77_2 v77_3 v77_4 v77_5) := (hF2.at hb_76 (by decide)).trans hM77
          have hF : fr K L [2, 7, 8, 64, 68, 69, 70] M M_82 := hF.tr hF2 (by decide)
          have hT2 : fT 2 K L [14] M M_82 := hT2.frr hF2 (by decide)
          refine lv_iinc (v := (nI (v2w12 + 1))) (lv' := [(2, .int (nI (v2w12 + 1))), (3, .ref b_68), (0, .ref oa), (1, .ref k1)]) hx hb dX0_cutLoose_44 hl (k := 1) rfl (nI_1 v2w12) (by decide) rfl (fun ls hl => ?_)
          refine lv_goto (tgt := 9) hx hb dX0_cutLoose_47 (by decide) ?_
          exact ih_10 (v2w12 + 1) M_82 H_80 _ _ (by omega) hM_84 (by omega) hW hF hT2 hP hD hS (lv_sub hl [0, 2, 3] rfl)
  exact key_9 (120 - 0 + 1) 0 M_5 H_3 _ _ (by omega) hM_7 (by omega) hW hF hT2 hP hD hS (lv_sub hl [0, 1, 2] rfl)
