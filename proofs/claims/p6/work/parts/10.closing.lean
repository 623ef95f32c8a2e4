theorem dX0_at_0 : decode cX0_at 0 = .ok (.iload_n 1, 1) := by decide +kernel
theorem dX0_at_1 : decode cX0_at 1 = .ok (.ifCond .lt 29, 3) := by decide +kernel
theorem dX0_at_4 : decode cX0_at 4 = .ok (.iload_n 1, 1) := by decide +kernel
theorem dX0_at_5 : decode cX0_at 5 = .ok (.aload_n 0, 1) := by decide +kernel
theorem dX0_at_6 : decode cX0_at 6 = .ok (.getfield 25, 3) := by decide +kernel
theorem dX0_at_9 : decode cX0_at 9 = .ok (.if_icmp .ge 21, 3) := by decide +kernel
theorem dX0_at_12 : decode cX0_at 12 = .ok (.iload_n 1, 1) := by decide +kernel
theorem dX0_at_13 : decode cX0_at 13 = .ok (.aload_n 0, 1) := by decide +kernel
theorem dX0_at_14 : decode cX0_at 14 = .ok (.getfield 11, 3) := by decide +kernel
theorem dX0_at_17 : decode cX0_at 17 = .ok (.arraylength, 1) := by decide +kernel
theorem dX0_at_18 : decode cX0_at 18 = .ok (.if_icmp .ge 12, 3) := by decide +kernel
theorem dX0_at_21 : decode cX0_at 21 = .ok (.aload_n 0, 1) := by decide +kernel
theorem dX0_at_22 : decode cX0_at 22 = .ok (.getfield 11, 3) := by decide +kernel
theorem dX0_at_25 : decode cX0_at 25 = .ok (.iload_n 1, 1) := by decide +kernel
theorem dX0_at_26 : decode cX0_at 26 = .ok (.aaload, 1) := by decide +kernel
theorem dX0_at_27 : decode cX0_at 27 = .ok (.goto 4, 3) := by decide +kernel
theorem dX0_at_30 : decode cX0_at 30 = .ok (.aconst_null, 1) := by decide +kernel
theorem dX0_at_31 : decode cX0_at 31 = .ok (.areturn, 1) := by decide +kernel
theorem dX0_nobodyOfLatest_0 : decode cX0_nobodyOfLatest 0 = .ok (.lconst 0, 1) := by decide +kernel
theorem dX0_nobodyOfLatest_1 : decode cX0_nobodyOfLatest 1 = .ok (.lstore_n 1, 1) := by decide +kernel
theorem dX0_nobodyOfLatest_2 : decode cX0_nobodyOfLatest 2 = .ok (.iconst 0, 1) := by decide +kernel
theorem dX0_nobodyOfLatest_3 : decode cX0_nobodyOfLatest 3 = .ok (.istore_n 3, 1) := by decide +kernel
theorem dX0_nobodyOfLatest_4 : decode cX0_nobodyOfLatest 4 = .ok (.iload_n 3, 1) := by decide +kernel
theorem dX0_nobodyOfLatest_5 : decode cX0_nobodyOfLatest 5 = .ok (.aload_n 0, 1) := by decide +kernel
theorem dX0_nobodyOfLatest_6 : decode cX0_nobodyOfLatest 6 = .ok (.getfield 25, 3) := by decide +kernel
theorem dX0_nobodyOfLatest_9 : decode cX0_nobodyOfLatest 9 = .ok (.if_icmp .ge 33, 3) := by decide +kernel
theorem dX0_nobodyOfLatest_12 : decode cX0_nobodyOfLatest 12 = .ok (.aload_n 0, 1) := by decide +kernel
theorem dX0_nobodyOfLatest_13 : decode cX0_nobodyOfLatest 13 = .ok (.iload_n 3, 1) := by decide +kernel
theorem dX0_nobodyOfLatest_14 : decode cX0_nobodyOfLatest 14 = .ok (.invokevirtual 34, 3) := by decide +kernel
theorem dX0_nobodyOfLatest_17 : decode cX0_nobodyOfLatest 17 = .ok (.astore 4, 2) := by decide +kernel
theorem dX0_nobodyOfLatest_19 : decode cX0_nobodyOfLatest 19 = .ok (.lload_n 1, 1) := by decide +kernel
theorem dX0_nobodyOfLatest_20 : decode cX0_nobodyOfLatest 20 = .ok (.aload 4, 2) := by decide +kernel
theorem dX0_nobodyOfLatest_22 : decode cX0_nobodyOfLatest 22 = .ok (.ifnonnull 7, 3) := by decide +kernel
theorem dX0_nobodyOfLatest_25 : decode cX0_nobodyOfLatest 25 = .ok (.lconst 0, 1) := by decide +kernel
theorem dX0_nobodyOfLatest_26 : decode cX0_nobodyOfLatest 26 = .ok (.goto 8, 3) := by decide +kernel
theorem dX0_nobodyOfLatest_29 : decode cX0_nobodyOfLatest 29 = .ok (.aload 4, 2) := by decide +kernel
theorem dX0_nobodyOfLatest_31 : decode cX0_nobodyOfLatest 31 = .ok (.getfield 38, 3) := by decide +kernel
theorem dX0_nobodyOfLatest_34 : decode cX0_nobodyOfLatest 34 = .ok (.ladd, 1) := by decide +kernel
theorem dX0_nobodyOfLatest_35 : decode cX0_nobodyOfLatest 35 = .ok (.lstore_n 1, 1) := by decide +kernel
theorem dX0_nobodyOfLatest_36 : decode cX0_nobodyOfLatest 36 = .ok (.iinc 3 1, 3) := by decide +kernel
theorem dX0_nobodyOfLatest_39 : decode cX0_nobodyOfLatest 39 = .ok (.goto (-35), 3) := by decide +kernel
theorem dX0_nobodyOfLatest_42 : decode cX0_nobodyOfLatest 42 = .ok (.lload_n 1, 1) := by decide +kernel
theorem dX0_nobodyOfLatest_43 : decode cX0_nobodyOfLatest 43 = .ok (.lreturn, 1) := by decide +kernel
theorem dX0_cutLoose_0 : decode cX0_cutLoose 0 = .ok (.aload_n 0, 1) := by decide +kernel
theorem dX0_cutLoose_1 : decode cX0_cutLoose 1 = .ok (.getfield 21, 3) := by decide +kernel
theorem dX0_cutLoose_4 : decode cX0_cutLoose 4 = .ok (.invokevirtual 125, 3) := by decide +kernel
theorem dX0_cutLoose_7 : decode cX0_cutLoose 7 = .ok (.iconst 0, 1) := by decide +kernel
theorem dX0_cutLoose_8 : decode cX0_cutLoose 8 = .ok (.istore_n 2, 1) := by decide +kernel
theorem dX0_cutLoose_9 : decode cX0_cutLoose 9 = .ok (.iload_n 2, 1) := by decide +kernel
theorem dX0_cutLoose_10 : decode cX0_cutLoose 10 = .ok (.aload_n 0, 1) := by decide +kernel
theorem dX0_cutLoose_11 : decode cX0_cutLoose 11 = .ok (.getfield 25, 3) := by decide +kernel
theorem dX0_cutLoose_14 : decode cX0_cutLoose 14 = .ok (.if_icmp .ge 36, 3) := by decide +kernel
theorem dX0_cutLoose_17 : decode cX0_cutLoose 17 = .ok (.aload_n 0, 1) := by decide +kernel
theorem dX0_cutLoose_18 : decode cX0_cutLoose 18 = .ok (.iload_n 2, 1) := by decide +kernel
theorem dX0_cutLoose_19 : decode cX0_cutLoose 19 = .ok (.invokevirtual 34, 3) := by decide +kernel
theorem dX0_cutLoose_22 : decode cX0_cutLoose 22 = .ok (.astore_n 3, 1) := by decide +kernel
theorem dX0_cutLoose_23 : decode cX0_cutLoose 23 = .ok (.aload_n 0, 1) := by decide +kernel
theorem dX0_cutLoose_24 : decode cX0_cutLoose 24 = .ok (.getfield 21, 3) := by decide +kernel
theorem dX0_cutLoose_27 : decode cX0_cutLoose 27 = .ok (.aconst_null, 1) := by decide +kernel
theorem dX0_cutLoose_28 : decode cX0_cutLoose 28 = .ok (.aload_n 3, 1) := by decide +kernel
theorem dX0_cutLoose_29 : decode cX0_cutLoose 29 = .ok (.ifnonnull 7, 3) := by decide +kernel
theorem dX0_cutLoose_32 : decode cX0_cutLoose 32 = .ok (.lconst 0, 1) := by decide +kernel
theorem dX0_cutLoose_33 : decode cX0_cutLoose 33 = .ok (.goto 8, 3) := by decide +kernel
theorem dX0_cutLoose_36 : decode cX0_cutLoose 36 = .ok (.aload_n 3, 1) := by decide +kernel
theorem dX0_cutLoose_37 : decode cX0_cutLoose 37 = .ok (.getfield 112, 3) := by decide +kernel
theorem dX0_cutLoose_40 : decode cX0_cutLoose 40 = .ok (.i2l, 1) := by decide +kernel
theorem dX0_cutLoose_41 : decode cX0_cutLoose 41 = .ok (.invokevirtual 130, 3) := by decide +kernel
theorem dX0_cutLoose_44 : decode cX0_cutLoose 44 = .ok (.iinc 2 1, 3) := by decide +kernel
theorem dX0_cutLoose_47 : decode cX0_cutLoose 47 = .ok (.goto (-38), 3) := by decide +kernel
theorem dX0_cutLoose_50 : decode cX0_cutLoose 50 = .ok (.aload_n 0, 1) := by decide +kernel
theorem dX0_cutLoose_51 : decode cX0_cutLoose 51 = .ok (.getfield 21, 3) := by decide +kernel
theorem dX0_cutLoose_54 : decode cX0_cutLoose 54 = .ok (.aload_n 1, 1) := by decide +kernel
theorem dX0_cutLoose_55 : decode cX0_cutLoose 55 = .ok (.getfield 134, 3) := by decide +kernel
theorem dX0_cutLoose_58 : decode cX0_cutLoose 58 = .ok (.invokevirtual 137, 3) := by decide +kernel
theorem dX0_cutLoose_61 : decode cX0_cutLoose 61 = .ok (.pop2, 1) := by decide +kernel
theorem dX0_cutLoose_62 : decode cX0_cutLoose 62 = .ok (.aload_n 1, 1) := by decide +kernel
theorem dX0_cutLoose_63 : decode cX0_cutLoose 63 = .ok (.lconst 0, 1) := by decide +kernel
theorem dX0_cutLoose_64 : decode cX0_cutLoose 64 = .ok (.putfield 134, 3) := by decide +kernel
theorem dX0_cutLoose_67 : decode cX0_cutLoose 67 = .ok (.iconst 0, 1) := by decide +kernel
theorem dX0_cutLoose_68 : decode cX0_cutLoose 68 = .ok (.istore_n 2, 1) := by decide +kernel
theorem dX0_cutLoose_69 : decode cX0_cutLoose 69 = .ok (.iload_n 2, 1) := by decide +kernel
theorem dX0_cutLoose_70 : decode cX0_cutLoose 70 = .ok (.aload_n 0, 1) := by decide +kernel
theorem dX0_cutLoose_71 : decode cX0_cutLoose 71 = .ok (.getfield 21, 3) := by decide +kernel
theorem dX0_cutLoose_74 : decode cX0_cutLoose 74 = .ok (.getfield 141, 3) := by decide +kernel
theorem dX0_cutLoose_77 : decode cX0_cutLoose 77 = .ok (.if_icmp .ge 37, 3) := by decide +kernel
theorem dX0_cutLoose_80 : decode cX0_cutLoose 80 = .ok (.aload_n 0, 1) := by decide +kernel
theorem dX0_cutLoose_81 : decode cX0_cutLoose 81 = .ok (.iload_n 2, 1) := by decide +kernel
theorem dX0_cutLoose_82 : decode cX0_cutLoose 82 = .ok (.invokevirtual 34, 3) := by decide +kernel
theorem dX0_cutLoose_85 : decode cX0_cutLoose 85 = .ok (.astore_n 3, 1) := by decide +kernel
theorem dX0_cutLoose_86 : decode cX0_cutLoose 86 = .ok (.aload_n 3, 1) := by decide +kernel
theorem dX0_cutLoose_87 : decode cX0_cutLoose 87 = .ok (.ifnull 21, 3) := by decide +kernel
theorem dX0_cutLoose_90 : decode cX0_cutLoose 90 = .ok (.aload_n 3, 1) := by decide +kernel
theorem dX0_cutLoose_91 : decode cX0_cutLoose 91 = .ok (.dup, 1) := by decide +kernel
theorem dX0_cutLoose_92 : decode cX0_cutLoose 92 = .ok (.getfield 115, 3) := by decide +kernel
theorem dX0_cutLoose_95 : decode cX0_cutLoose 95 = .ok (.aload_n 0, 1) := by decide +kernel
theorem dX0_cutLoose_96 : decode cX0_cutLoose 96 = .ok (.getfield 21, 3) := by decide +kernel
theorem dX0_cutLoose_99 : decode cX0_cutLoose 99 = .ok (.getfield 142, 3) := by decide +kernel
theorem dX0_cutLoose_102 : decode cX0_cutLoose 102 = .ok (.iload_n 2, 1) := by decide +kernel
theorem dX0_cutLoose_103 : decode cX0_cutLoose 103 = .ok (.laload, 1) := by decide +kernel
theorem dX0_cutLoose_104 : decode cX0_cutLoose 104 = .ok (.ladd, 1) := by decide +kernel
theorem dX0_cutLoose_105 : decode cX0_cutLoose 105 = .ok (.putfield 115, 3) := by decide +kernel
theorem dX0_cutLoose_108 : decode cX0_cutLoose 108 = .ok (.iinc 2 1, 3) := by decide +kernel
theorem dX0_cutLoose_111 : decode cX0_cutLoose 111 = .ok (.goto (-42), 3) := by decide +kernel
theorem dX0_cutLoose_114 : decode cX0_cutLoose 114 = .ok (.return_, 1) := by decide +kernel
theorem dX0_settleStretches_0 : decode cX0_settleStretches 0 = .ok (.iconst 0, 1) := by decide +kernel
theorem dX0_settleStretches_1 : decode cX0_settleStretches 1 = .ok (.istore_n 2, 1) := by decide +kernel
theorem dX0_settleStretches_2 : decode cX0_settleStretches 2 = .ok (.iload_n 2, 1) := by decide +kernel
theorem dX0_settleStretches_3 : decode cX0_settleStretches 3 = .ok (.aload_n 0, 1) := by decide +kernel
theorem dX0_settleStretches_4 : decode cX0_settleStretches 4 = .ok (.getfield 25, 3) := by decide +kernel
theorem dX0_settleStretches_7 : decode cX0_settleStretches 7 = .ok (.if_icmp .ge 119, 3) := by decide +kernel
theorem dX0_settleStretches_10 : decode cX0_settleStretches 10 = .ok (.aload_n 0, 1) := by decide +kernel
theorem dX0_settleStretches_11 : decode cX0_settleStretches 11 = .ok (.iload_n 2, 1) := by decide +kernel
theorem dX0_settleStretches_12 : decode cX0_settleStretches 12 = .ok (.invokevirtual 34, 3) := by decide +kernel
theorem dX0_settleStretches_15 : decode cX0_settleStretches 15 = .ok (.astore_n 3, 1) := by decide +kernel
theorem dX0_settleStretches_16 : decode cX0_settleStretches 16 = .ok (.aload_n 3, 1) := by decide +kernel
theorem dX0_settleStretches_17 : decode cX0_settleStretches 17 = .ok (.ifnonnull 7, 3) := by decide +kernel
theorem dX0_settleStretches_20 : decode cX0_settleStretches 20 = .ok (.aconst_null, 1) := by decide +kernel
theorem dX0_settleStretches_21 : decode cX0_settleStretches 21 = .ok (.goto 11, 3) := by decide +kernel
theorem dX0_settleStretches_24 : decode cX0_settleStretches 24 = .ok (.aload_n 1, 1) := by decide +kernel
theorem dX0_settleStretches_25 : decode cX0_settleStretches 25 = .ok (.aload_n 3, 1) := by decide +kernel
theorem dX0_settleStretches_26 : decode cX0_settleStretches 26 = .ok (.getfield 145, 3) := by decide +kernel
theorem dX0_settleStretches_29 : decode cX0_settleStretches 29 = .ok (.invokevirtual 148, 3) := by decide +kernel
theorem dX0_settleStretches_32 : decode cX0_settleStretches 32 = .ok (.astore 4, 2) := by decide +kernel
theorem dX0_settleStretches_34 : decode cX0_settleStretches 34 = .ok (.aload_n 3, 1) := by decide +kernel
theorem dX0_settleStretches_35 : decode cX0_settleStretches 35 = .ok (.ifnull 85, 3) := by decide +kernel
theorem dX0_settleStretches_38 : decode cX0_settleStretches 38 = .ok (.aload 4, 2) := by decide +kernel
theorem dX0_settleStretches_40 : decode cX0_settleStretches 40 = .ok (.ifnonnull 6, 3) := by decide +kernel
theorem dX0_settleStretches_43 : decode cX0_settleStretches 43 = .ok (.goto 77, 3) := by decide +kernel
theorem dX0_settleStretches_46 : decode cX0_settleStretches 46 = .ok (.aload_n 3, 1) := by decide +kernel
theorem dX0_settleStretches_47 : decode cX0_settleStretches 47 = .ok (.aload_n 1, 1) := by decide +kernel
theorem dX0_settleStretches_48 : decode cX0_settleStretches 48 = .ok (.invokevirtual 152, 3) := by decide +kernel
theorem dX0_settleStretches_51 : decode cX0_settleStretches 51 = .ok (.aload_n 3, 1) := by decide +kernel
theorem dX0_settleStretches_52 : decode cX0_settleStretches 52 = .ok (.getfield 115, 3) := by decide +kernel
theorem dX0_settleStretches_55 : decode cX0_settleStretches 55 = .ok (.aload_n 0, 1) := by decide +kernel
theorem dX0_settleStretches_56 : decode cX0_settleStretches 56 = .ok (.aload_n 3, 1) := by decide +kernel
theorem dX0_settleStretches_57 : decode cX0_settleStretches 57 = .ok (.aload 4, 2) := by decide +kernel
theorem dX0_settleStretches_59 : decode cX0_settleStretches 59 = .ok (.invokevirtual 155, 3) := by decide +kernel
theorem dX0_settleStretches_62 : decode cX0_settleStretches 62 = .ok (.lsub, 1) := by decide +kernel
theorem dX0_settleStretches_63 : decode cX0_settleStretches 63 = .ok (.aload_n 0, 1) := by decide +kernel
theorem dX0_settleStretches_64 : decode cX0_settleStretches 64 = .ok (.aload_n 1, 1) := by decide +kernel
theorem dX0_settleStretches_65 : decode cX0_settleStretches 65 = .ok (.aload_n 3, 1) := by decide +kernel
theorem dX0_settleStretches_66 : decode cX0_settleStretches 66 = .ok (.aload 4, 2) := by decide +kernel
theorem dX0_settleStretches_68 : decode cX0_settleStretches 68 = .ok (.invokevirtual 159, 3) := by decide +kernel
theorem dX0_settleStretches_71 : decode cX0_settleStretches 71 = .ok (.lsub, 1) := by decide +kernel
theorem dX0_settleStretches_72 : decode cX0_settleStretches 72 = .ok (.lstore 5, 2) := by decide +kernel
theorem dX0_settleStretches_74 : decode cX0_settleStretches 74 = .ok (.lload 5, 2) := by decide +kernel
theorem dX0_settleStretches_76 : decode cX0_settleStretches 76 = .ok (.lconst 0, 1) := by decide +kernel
theorem dX0_settleStretches_77 : decode cX0_settleStretches 77 = .ok (.lcmp, 1) := by decide +kernel
theorem dX0_settleStretches_78 : decode cX0_settleStretches 78 = .ok (.ifCond .le 25, 3) := by decide +kernel
theorem dX0_settleStretches_81 : decode cX0_settleStretches 81 = .ok (.aload_n 0, 1) := by decide +kernel
theorem dX0_settleStretches_82 : decode cX0_settleStretches 82 = .ok (.aload_n 3, 1) := by decide +kernel
theorem dX0_settleStretches_83 : decode cX0_settleStretches 83 = .ok (.aload 4, 2) := by decide +kernel
theorem dX0_settleStretches_85 : decode cX0_settleStretches 85 = .ok (.lload 5, 2) := by decide +kernel
theorem dX0_settleStretches_87 : decode cX0_settleStretches 87 = .ok (.aload_n 0, 1) := by decide +kernel
theorem dX0_settleStretches_88 : decode cX0_settleStretches 88 = .ok (.aload_n 3, 1) := by decide +kernel
theorem dX0_settleStretches_89 : decode cX0_settleStretches 89 = .ok (.aload 4, 2) := by decide +kernel
theorem dX0_settleStretches_91 : decode cX0_settleStretches 91 = .ok (.lload 5, 2) := by decide +kernel
theorem dX0_settleStretches_93 : decode cX0_settleStretches 93 = .ok (.invokevirtual 163, 3) := by decide +kernel
theorem dX0_settleStretches_96 : decode cX0_settleStretches 96 = .ok (.lsub, 1) := by decide +kernel
theorem dX0_settleStretches_97 : decode cX0_settleStretches 97 = .ok (.invokevirtual 167, 3) := by decide +kernel
theorem dX0_settleStretches_100 : decode cX0_settleStretches 100 = .ok (.goto 20, 3) := by decide +kernel
theorem dX0_settleStretches_103 : decode cX0_settleStretches 103 = .ok (.lload 5, 2) := by decide +kernel
theorem dX0_settleStretches_105 : decode cX0_settleStretches 105 = .ok (.lconst 0, 1) := by decide +kernel
theorem dX0_settleStretches_106 : decode cX0_settleStretches 106 = .ok (.lcmp, 1) := by decide +kernel
theorem dX0_settleStretches_107 : decode cX0_settleStretches 107 = .ok (.ifCond .ge 13, 3) := by decide +kernel
theorem dX0_settleStretches_110 : decode cX0_settleStretches 110 = .ok (.aload_n 0, 1) := by decide +kernel
theorem dX0_settleStretches_111 : decode cX0_settleStretches 111 = .ok (.aload_n 3, 1) := by decide +kernel
theorem dX0_settleStretches_112 : decode cX0_settleStretches 112 = .ok (.aload 4, 2) := by decide +kernel
theorem dX0_settleStretches_114 : decode cX0_settleStretches 114 = .ok (.lload 5, 2) := by decide +kernel
theorem dX0_settleStretches_116 : decode cX0_settleStretches 116 = .ok (.lneg, 1) := by decide +kernel
theorem dX0_settleStretches_117 : decode cX0_settleStretches 117 = .ok (.invokevirtual 171, 3) := by decide +kernel
theorem dX0_settleStretches_120 : decode cX0_settleStretches 120 = .ok (.iinc 2 1, 3) := by decide +kernel
theorem dX0_settleStretches_123 : decode cX0_settleStretches 123 = .ok (.goto (-121), 3) := by decide +kernel
theorem dX0_settleStretches_126 : decode cX0_settleStretches 126 = .ok (.return_, 1) := by decide +kernel
theorem dX0_giveWages_0 : decode cX0_giveWages 0 = .ok (.lconst 0, 1) := by decide +kernel
theorem dX0_giveWages_1 : decode cX0_giveWages 1 = .ok (.lstore_n 3, 1) := by decide +kernel
theorem dX0_giveWages_2 : decode cX0_giveWages 2 = .ok (.iconst 0, 1) := by decide +kernel
theorem dX0_giveWages_3 : decode cX0_giveWages 3 = .ok (.istore 5, 2) := by decide +kernel
theorem dX0_giveWages_5 : decode cX0_giveWages 5 = .ok (.iload 5, 2) := by decide +kernel
theorem dX0_giveWages_7 : decode cX0_giveWages 7 = .ok (.bipush 6, 2) := by decide +kernel
theorem dX0_giveWages_9 : decode cX0_giveWages 9 = .ok (.if_icmp .ge 68, 3) := by decide +kernel
theorem dX0_giveWages_12 : decode cX0_giveWages 12 = .ok (.aload_n 1, 1) := by decide +kernel
theorem dX0_giveWages_13 : decode cX0_giveWages 13 = .ok (.getfield 180, 3) := by decide +kernel
theorem dX0_giveWages_16 : decode cX0_giveWages 16 = .ok (.iload 5, 2) := by decide +kernel
theorem dX0_giveWages_18 : decode cX0_giveWages 18 = .ok (.aaload, 1) := by decide +kernel
theorem dX0_giveWages_19 : decode cX0_giveWages 19 = .ok (.astore 6, 2) := by decide +kernel
theorem dX0_giveWages_21 : decode cX0_giveWages 21 = .ok (.aload 6, 2) := by decide +kernel
theorem dX0_giveWages_23 : decode cX0_giveWages 23 = .ok (.ifnull 48, 3) := by decide +kernel
theorem dX0_giveWages_26 : decode cX0_giveWages 26 = .ok (.aload 6, 2) := by decide +kernel
theorem dX0_giveWages_28 : decode cX0_giveWages 28 = .ok (.getfield 184, 3) := by decide +kernel
theorem dX0_giveWages_31 : decode cX0_giveWages 31 = .ok (.getfield 190, 3) := by decide +kernel
theorem dX0_giveWages_34 : decode cX0_giveWages 34 = .ok (.iconst 3, 1) := by decide +kernel
theorem dX0_giveWages_35 : decode cX0_giveWages 35 = .ok (.if_icmp .ne 36, 3) := by decide +kernel
theorem dX0_giveWages_38 : decode cX0_giveWages 38 = .ok (.aload_n 2, 1) := by decide +kernel
theorem dX0_giveWages_39 : decode cX0_giveWages 39 = .ok (.iload 5, 2) := by decide +kernel
theorem dX0_giveWages_41 : decode cX0_giveWages 41 = .ok (.iconst 0, 1) := by decide +kernel
theorem dX0_giveWages_42 : decode cX0_giveWages 42 = .ok (.invokevirtual 195, 3) := by decide +kernel
theorem dX0_giveWages_45 : decode cX0_giveWages 45 = .ok (.i2l, 1) := by decide +kernel
theorem dX0_giveWages_46 : decode cX0_giveWages 46 = .ok (.aload_n 1, 1) := by decide +kernel
theorem dX0_giveWages_47 : decode cX0_giveWages 47 = .ok (.getfield 112, 3) := by decide +kernel
theorem dX0_giveWages_50 : decode cX0_giveWages 50 = .ok (.i2l, 1) := by decide +kernel
theorem dX0_giveWages_51 : decode cX0_giveWages 51 = .ok (.lmul, 1) := by decide +kernel
theorem dX0_giveWages_52 : decode cX0_giveWages 52 = .ok (.lstore 7, 2) := by decide +kernel
theorem dX0_giveWages_54 : decode cX0_giveWages 54 = .ok (.aload_n 1, 1) := by decide +kernel
theorem dX0_giveWages_55 : decode cX0_giveWages 55 = .ok (.getfield 200, 3) := by decide +kernel
theorem dX0_giveWages_58 : decode cX0_giveWages 58 = .ok (.iload 5, 2) := by decide +kernel
theorem dX0_giveWages_60 : decode cX0_giveWages 60 = .ok (.dup2, 1) := by decide +kernel
theorem dX0_giveWages_61 : decode cX0_giveWages 61 = .ok (.laload, 1) := by decide +kernel
theorem dX0_giveWages_62 : decode cX0_giveWages 62 = .ok (.lload 7, 2) := by decide +kernel
theorem dX0_giveWages_64 : decode cX0_giveWages 64 = .ok (.ladd, 1) := by decide +kernel
theorem dX0_giveWages_65 : decode cX0_giveWages 65 = .ok (.lastore, 1) := by decide +kernel
theorem dX0_giveWages_66 : decode cX0_giveWages 66 = .ok (.lload_n 3, 1) := by decide +kernel
theorem dX0_giveWages_67 : decode cX0_giveWages 67 = .ok (.lload 7, 2) := by decide +kernel
theorem dX0_giveWages_69 : decode cX0_giveWages 69 = .ok (.ladd, 1) := by decide +kernel
theorem dX0_giveWages_70 : decode cX0_giveWages 70 = .ok (.lstore_n 3, 1) := by decide +kernel
theorem dX0_giveWages_71 : decode cX0_giveWages 71 = .ok (.iinc 5 1, 3) := by decide +kernel
theorem dX0_giveWages_74 : decode cX0_giveWages 74 = .ok (.goto (-69), 3) := by decide +kernel
theorem dX0_giveWages_77 : decode cX0_giveWages 77 = .ok (.lload_n 3, 1) := by decide +kernel
theorem dX0_giveWages_78 : decode cX0_giveWages 78 = .ok (.lreturn, 1) := by decide +kernel
theorem dX0_giveInterest_0 : decode cX0_giveInterest 0 = .ok (.lconst 0, 1) := by decide +kernel
theorem dX0_giveInterest_1 : decode cX0_giveInterest 1 = .ok (.lstore 4, 2) := by decide +kernel
theorem dX0_giveInterest_3 : decode cX0_giveInterest 3 = .ok (.iconst 0, 1) := by decide +kernel
theorem dX0_giveInterest_4 : decode cX0_giveInterest 4 = .ok (.istore 6, 2) := by decide +kernel
theorem dX0_giveInterest_6 : decode cX0_giveInterest 6 = .ok (.iload 6, 2) := by decide +kernel
theorem dX0_giveInterest_8 : decode cX0_giveInterest 8 = .ok (.bipush 6, 2) := by decide +kernel
theorem dX0_giveInterest_10 : decode cX0_giveInterest 10 = .ok (.if_icmp .ge 72, 3) := by decide +kernel
theorem dX0_giveInterest_13 : decode cX0_giveInterest 13 = .ok (.aload_n 3, 1) := by decide +kernel
theorem dX0_giveInterest_14 : decode cX0_giveInterest 14 = .ok (.getfield 203, 3) := by decide +kernel
theorem dX0_giveInterest_17 : decode cX0_giveInterest 17 = .ok (.ifCond .le 65, 3) := by decide +kernel
theorem dX0_giveInterest_20 : decode cX0_giveInterest 20 = .ok (.aload_n 2, 1) := by decide +kernel
theorem dX0_giveInterest_21 : decode cX0_giveInterest 21 = .ok (.getfield 180, 3) := by decide +kernel
theorem dX0_giveInterest_24 : decode cX0_giveInterest 24 = .ok (.iload 6, 2) := by decide +kernel
theorem dX0_giveInterest_26 : decode cX0_giveInterest 26 = .ok (.aaload, 1) := by decide +kernel
theorem dX0_giveInterest_27 : decode cX0_giveInterest 27 = .ok (.astore 7, 2) := by decide +kernel
theorem dX0_giveInterest_29 : decode cX0_giveInterest 29 = .ok (.aload 7, 2) := by decide +kernel
theorem dX0_giveInterest_31 : decode cX0_giveInterest 31 = .ok (.ifnull 45, 3) := by decide +kernel
theorem dX0_giveInterest_34 : decode cX0_giveInterest 34 = .ok (.aload_n 0, 1) := by decide +kernel
theorem dX0_giveInterest_35 : decode cX0_giveInterest 35 = .ok (.aload_n 1, 1) := by decide +kernel
theorem dX0_giveInterest_36 : decode cX0_giveInterest 36 = .ok (.getfield 66, 3) := by decide +kernel
theorem dX0_giveInterest_39 : decode cX0_giveInterest 39 = .ok (.aload_n 2, 1) := by decide +kernel
theorem dX0_giveInterest_40 : decode cX0_giveInterest 40 = .ok (.aload 7, 2) := by decide +kernel
theorem dX0_giveInterest_42 : decode cX0_giveInterest 42 = .ok (.invokevirtual 206, 3) := by decide +kernel
theorem dX0_giveInterest_45 : decode cX0_giveInterest 45 = .ok (.aload_n 3, 1) := by decide +kernel
theorem dX0_giveInterest_46 : decode cX0_giveInterest 46 = .ok (.getfield 203, 3) := by decide +kernel
theorem dX0_giveInterest_49 : decode cX0_giveInterest 49 = .ok (.i2l, 1) := by decide +kernel
theorem dX0_giveInterest_50 : decode cX0_giveInterest 50 = .ok (.lmul, 1) := by decide +kernel
theorem dX0_giveInterest_51 : decode cX0_giveInterest 51 = .ok (.ldc2_w 210, 3) := by decide +kernel
theorem dX0_giveInterest_54 : decode cX0_giveInterest 54 = .ok (.ldiv, 1) := by decide +kernel
theorem dX0_giveInterest_55 : decode cX0_giveInterest 55 = .ok (.lstore 8, 2) := by decide +kernel
theorem dX0_giveInterest_57 : decode cX0_giveInterest 57 = .ok (.aload_n 2, 1) := by decide +kernel
theorem dX0_giveInterest_58 : decode cX0_giveInterest 58 = .ok (.getfield 200, 3) := by decide +kernel
theorem dX0_giveInterest_61 : decode cX0_giveInterest 61 = .ok (.iload 6, 2) := by decide +kernel
theorem dX0_giveInterest_63 : decode cX0_giveInterest 63 = .ok (.dup2, 1) := by decide +kernel
theorem dX0_giveInterest_64 : decode cX0_giveInterest 64 = .ok (.laload, 1) := by decide +kernel
theorem dX0_giveInterest_65 : decode cX0_giveInterest 65 = .ok (.lload 8, 2) := by decide +kernel
theorem dX0_giveInterest_67 : decode cX0_giveInterest 67 = .ok (.ladd, 1) := by decide +kernel
theorem dX0_giveInterest_68 : decode cX0_giveInterest 68 = .ok (.lastore, 1) := by decide +kernel
theorem dX0_giveInterest_69 : decode cX0_giveInterest 69 = .ok (.lload 4, 2) := by decide +kernel
theorem dX0_giveInterest_71 : decode cX0_giveInterest 71 = .ok (.lload 8, 2) := by decide +kernel
theorem dX0_giveInterest_73 : decode cX0_giveInterest 73 = .ok (.ladd, 1) := by decide +kernel
theorem dX0_giveInterest_74 : decode cX0_giveInterest 74 = .ok (.lstore 4, 2) := by decide +kernel
theorem dX0_giveInterest_76 : decode cX0_giveInterest 76 = .ok (.iinc 6 1, 3) := by decide +kernel
theorem dX0_giveInterest_79 : decode cX0_giveInterest 79 = .ok (.goto (-73), 3) := by decide +kernel
theorem dX0_giveInterest_82 : decode cX0_giveInterest 82 = .ok (.lload 4, 2) := by decide +kernel
theorem dX0_giveInterest_84 : decode cX0_giveInterest 84 = .ok (.lreturn, 1) := by decide +kernel
theorem dX0_creditDays_0 : decode cX0_creditDays 0 = .ok (.aload_n 3, 1) := by decide +kernel
theorem dX0_creditDays_1 : decode cX0_creditDays 1 = .ok (.getfield 212, 3) := by decide +kernel
theorem dX0_creditDays_4 : decode cX0_creditDays 4 = .ok (.lstore 4, 2) := by decide +kernel
theorem dX0_creditDays_6 : decode cX0_creditDays 6 = .ok (.aload_n 0, 1) := by decide +kernel
theorem dX0_creditDays_7 : decode cX0_creditDays 7 = .ok (.getfield 17, 3) := by decide +kernel
theorem dX0_creditDays_10 : decode cX0_creditDays 10 = .ok (.lconst 0, 1) := by decide +kernel
theorem dX0_creditDays_11 : decode cX0_creditDays 11 = .ok (.invokestatic 215, 3) := by decide +kernel
theorem dX0_creditDays_14 : decode cX0_creditDays 14 = .ok (.iconst 0, 1) := by decide +kernel
theorem dX0_creditDays_15 : decode cX0_creditDays 15 = .ok (.istore 6, 2) := by decide +kernel
theorem dX0_creditDays_17 : decode cX0_creditDays 17 = .ok (.iload 6, 2) := by decide +kernel
theorem dX0_creditDays_19 : decode cX0_creditDays 19 = .ok (.aload_n 1, 1) := by decide +kernel
theorem dX0_creditDays_20 : decode cX0_creditDays 20 = .ok (.getfield 80, 3) := by decide +kernel
theorem dX0_creditDays_23 : decode cX0_creditDays 23 = .ok (.if_icmp .ge 86, 3) := by decide +kernel
theorem dX0_creditDays_26 : decode cX0_creditDays 26 = .ok (.aload_n 1, 1) := by decide +kernel
theorem dX0_creditDays_27 : decode cX0_creditDays 27 = .ok (.getfield 174, 3) := by decide +kernel
theorem dX0_creditDays_30 : decode cX0_creditDays 30 = .ok (.iload 6, 2) := by decide +kernel
theorem dX0_creditDays_32 : decode cX0_creditDays 32 = .ok (.iaload, 1) := by decide +kernel
theorem dX0_creditDays_33 : decode cX0_creditDays 33 = .ok (.aload_n 2, 1) := by decide +kernel
theorem dX0_creditDays_34 : decode cX0_creditDays 34 = .ok (.getfield 145, 3) := by decide +kernel
theorem dX0_creditDays_37 : decode cX0_creditDays 37 = .ok (.isub, 1) := by decide +kernel
theorem dX0_creditDays_38 : decode cX0_creditDays 38 = .ok (.istore 7, 2) := by decide +kernel
theorem dX0_creditDays_40 : decode cX0_creditDays 40 = .ok (.aload_n 1, 1) := by decide +kernel
theorem dX0_creditDays_41 : decode cX0_creditDays 41 = .ok (.getfield 221, 3) := by decide +kernel
theorem dX0_creditDays_44 : decode cX0_creditDays 44 = .ok (.iload 6, 2) := by decide +kernel
theorem dX0_creditDays_46 : decode cX0_creditDays 46 = .ok (.aaload, 1) := by decide +kernel
theorem dX0_creditDays_47 : decode cX0_creditDays 47 = .ok (.aload_n 3, 1) := by decide +kernel
theorem dX0_creditDays_48 : decode cX0_creditDays 48 = .ok (.if_acmp .ne 55, 3) := by decide +kernel
theorem dX0_creditDays_51 : decode cX0_creditDays 51 = .ok (.iload 7, 2) := by decide +kernel
theorem dX0_creditDays_53 : decode cX0_creditDays 53 = .ok (.aload_n 0, 1) := by decide +kernel
theorem dX0_creditDays_54 : decode cX0_creditDays 54 = .ok (.getfield 17, 3) := by decide +kernel
theorem dX0_creditDays_57 : decode cX0_creditDays 57 = .ok (.arraylength, 1) := by decide +kernel
theorem dX0_creditDays_58 : decode cX0_creditDays 58 = .ok (.if_icmp .lt 6, 3) := by decide +kernel
theorem dX0_creditDays_61 : decode cX0_creditDays 61 = .ok (.goto 42, 3) := by decide +kernel
theorem dX0_creditDays_64 : decode cX0_creditDays 64 = .ok (.iload 7, 2) := by decide +kernel
theorem dX0_creditDays_66 : decode cX0_creditDays 66 = .ok (.ifCond .ge 19, 3) := by decide +kernel
theorem dX0_creditDays_69 : decode cX0_creditDays 69 = .ok (.lload 4, 2) := by decide +kernel
theorem dX0_creditDays_71 : decode cX0_creditDays 71 = .ok (.aload_n 1, 1) := by decide +kernel
theorem dX0_creditDays_72 : decode cX0_creditDays 72 = .ok (.getfield 177, 3) := by decide +kernel
theorem dX0_creditDays_75 : decode cX0_creditDays 75 = .ok (.iload 6, 2) := by decide +kernel
theorem dX0_creditDays_77 : decode cX0_creditDays 77 = .ok (.iaload, 1) := by decide +kernel
theorem dX0_creditDays_78 : decode cX0_creditDays 78 = .ok (.i2l, 1) := by decide +kernel
theorem dX0_creditDays_79 : decode cX0_creditDays 79 = .ok (.ladd, 1) := by decide +kernel
theorem dX0_creditDays_80 : decode cX0_creditDays 80 = .ok (.lstore 4, 2) := by decide +kernel
theorem dX0_creditDays_82 : decode cX0_creditDays 82 = .ok (.goto 21, 3) := by decide +kernel
theorem dX0_creditDays_85 : decode cX0_creditDays 85 = .ok (.aload_n 0, 1) := by decide +kernel
theorem dX0_creditDays_86 : decode cX0_creditDays 86 = .ok (.getfield 17, 3) := by decide +kernel
theorem dX0_creditDays_89 : decode cX0_creditDays 89 = .ok (.iload 7, 2) := by decide +kernel
theorem dX0_creditDays_91 : decode cX0_creditDays 91 = .ok (.dup2, 1) := by decide +kernel
theorem dX0_creditDays_92 : decode cX0_creditDays 92 = .ok (.laload, 1) := by decide +kernel
theorem dX0_creditDays_93 : decode cX0_creditDays 93 = .ok (.aload_n 1, 1) := by decide +kernel
theorem dX0_creditDays_94 : decode cX0_creditDays 94 = .ok (.getfield 177, 3) := by decide +kernel
theorem dX0_creditDays_97 : decode cX0_creditDays 97 = .ok (.iload 6, 2) := by decide +kernel
theorem dX0_creditDays_99 : decode cX0_creditDays 99 = .ok (.iaload, 1) := by decide +kernel
theorem dX0_creditDays_100 : decode cX0_creditDays 100 = .ok (.i2l, 1) := by decide +kernel
theorem dX0_creditDays_101 : decode cX0_creditDays 101 = .ok (.ladd, 1) := by decide +kernel
theorem dX0_creditDays_102 : decode cX0_creditDays 102 = .ok (.lastore, 1) := by decide +kernel
theorem dX0_creditDays_103 : decode cX0_creditDays 103 = .ok (.iinc 6 1, 3) := by decide +kernel
theorem dX0_creditDays_106 : decode cX0_creditDays 106 = .ok (.goto (-89), 3) := by decide +kernel
theorem dX0_creditDays_109 : decode cX0_creditDays 109 = .ok (.lconst 0, 1) := by decide +kernel
theorem dX0_creditDays_110 : decode cX0_creditDays 110 = .ok (.lstore 6, 2) := by decide +kernel
theorem dX0_creditDays_112 : decode cX0_creditDays 112 = .ok (.iconst 0, 1) := by decide +kernel
theorem dX0_creditDays_113 : decode cX0_creditDays 113 = .ok (.istore 8, 2) := by decide +kernel
theorem dX0_creditDays_115 : decode cX0_creditDays 115 = .ok (.iload 8, 2) := by decide +kernel
theorem dX0_creditDays_117 : decode cX0_creditDays 117 = .ok (.aload_n 2, 1) := by decide +kernel
theorem dX0_creditDays_118 : decode cX0_creditDays 118 = .ok (.getfield 112, 3) := by decide +kernel
theorem dX0_creditDays_121 : decode cX0_creditDays 121 = .ok (.if_icmp .ge 42, 3) := by decide +kernel
theorem dX0_creditDays_124 : decode cX0_creditDays 124 = .ok (.iload 8, 2) := by decide +kernel
theorem dX0_creditDays_126 : decode cX0_creditDays 126 = .ok (.aload_n 0, 1) := by decide +kernel
theorem dX0_creditDays_127 : decode cX0_creditDays 127 = .ok (.getfield 17, 3) := by decide +kernel
theorem dX0_creditDays_130 : decode cX0_creditDays 130 = .ok (.arraylength, 1) := by decide +kernel
theorem dX0_creditDays_131 : decode cX0_creditDays 131 = .ok (.if_icmp .ge 32, 3) := by decide +kernel
theorem dX0_creditDays_134 : decode cX0_creditDays 134 = .ok (.lload 4, 2) := by decide +kernel
theorem dX0_creditDays_136 : decode cX0_creditDays 136 = .ok (.aload_n 0, 1) := by decide +kernel
theorem dX0_creditDays_137 : decode cX0_creditDays 137 = .ok (.getfield 17, 3) := by decide +kernel
theorem dX0_creditDays_140 : decode cX0_creditDays 140 = .ok (.iload 8, 2) := by decide +kernel
theorem dX0_creditDays_142 : decode cX0_creditDays 142 = .ok (.laload, 1) := by decide +kernel
theorem dX0_creditDays_143 : decode cX0_creditDays 143 = .ok (.ladd, 1) := by decide +kernel
theorem dX0_creditDays_144 : decode cX0_creditDays 144 = .ok (.lstore 4, 2) := by decide +kernel
theorem dX0_creditDays_146 : decode cX0_creditDays 146 = .ok (.lload 6, 2) := by decide +kernel
theorem dX0_creditDays_148 : decode cX0_creditDays 148 = .ok (.lconst 0, 1) := by decide +kernel
theorem dX0_creditDays_149 : decode cX0_creditDays 149 = .ok (.lload 4, 2) := by decide +kernel
theorem dX0_creditDays_151 : decode cX0_creditDays 151 = .ok (.invokestatic 222, 3) := by decide +kernel
theorem dX0_creditDays_154 : decode cX0_creditDays 154 = .ok (.ladd, 1) := by decide +kernel
theorem dX0_creditDays_155 : decode cX0_creditDays 155 = .ok (.lstore 6, 2) := by decide +kernel
theorem dX0_creditDays_157 : decode cX0_creditDays 157 = .ok (.iinc 8 1, 3) := by decide +kernel
theorem dX0_creditDays_160 : decode cX0_creditDays 160 = .ok (.goto (-45), 3) := by decide +kernel
theorem dX0_creditDays_163 : decode cX0_creditDays 163 = .ok (.lload 6, 2) := by decide +kernel
theorem dX0_creditDays_165 : decode cX0_creditDays 165 = .ok (.lreturn, 1) := by decide +kernel
theorem dX0_giveSums_0 : decode cX0_giveSums 0 = .ok (.lconst 0, 1) := by decide +kernel
theorem dX0_giveSums_1 : decode cX0_giveSums 1 = .ok (.lstore 5, 2) := by decide +kernel
theorem dX0_giveSums_3 : decode cX0_giveSums 3 = .ok (.iconst 0, 1) := by decide +kernel
theorem dX0_giveSums_4 : decode cX0_giveSums 4 = .ok (.istore 7, 2) := by decide +kernel
theorem dX0_giveSums_6 : decode cX0_giveSums 6 = .ok (.iload 7, 2) := by decide +kernel
theorem dX0_giveSums_8 : decode cX0_giveSums 8 = .ok (.bipush 6, 2) := by decide +kernel
theorem dX0_giveSums_10 : decode cX0_giveSums 10 = .ok (.if_icmp .ge 55, 3) := by decide +kernel
theorem dX0_giveSums_13 : decode cX0_giveSums 13 = .ok (.aload_n 1, 1) := by decide +kernel
theorem dX0_giveSums_14 : decode cX0_giveSums 14 = .ok (.getfield 180, 3) := by decide +kernel
theorem dX0_giveSums_17 : decode cX0_giveSums 17 = .ok (.iload 7, 2) := by decide +kernel
theorem dX0_giveSums_19 : decode cX0_giveSums 19 = .ok (.aaload, 1) := by decide +kernel
theorem dX0_giveSums_20 : decode cX0_giveSums 20 = .ok (.ifnull 39, 3) := by decide +kernel
theorem dX0_giveSums_23 : decode cX0_giveSums 23 = .ok (.aload_n 2, 1) := by decide +kernel
theorem dX0_giveSums_24 : decode cX0_giveSums 24 = .ok (.iload 7, 2) := by decide +kernel
theorem dX0_giveSums_26 : decode cX0_giveSums 26 = .ok (.iconst 1, 1) := by decide +kernel
theorem dX0_giveSums_27 : decode cX0_giveSums 27 = .ok (.invokevirtual 195, 3) := by decide +kernel
theorem dX0_giveSums_30 : decode cX0_giveSums 30 = .ok (.i2l, 1) := by decide +kernel
theorem dX0_giveSums_31 : decode cX0_giveSums 31 = .ok (.lload_n 3, 1) := by decide +kernel
theorem dX0_giveSums_32 : decode cX0_giveSums 32 = .ok (.lload 5, 2) := by decide +kernel
theorem dX0_giveSums_34 : decode cX0_giveSums 34 = .ok (.lsub, 1) := by decide +kernel
theorem dX0_giveSums_35 : decode cX0_giveSums 35 = .ok (.invokestatic 225, 3) := by decide +kernel
theorem dX0_giveSums_38 : decode cX0_giveSums 38 = .ok (.lstore 8, 2) := by decide +kernel
theorem dX0_giveSums_40 : decode cX0_giveSums 40 = .ok (.aload_n 1, 1) := by decide +kernel
theorem dX0_giveSums_41 : decode cX0_giveSums 41 = .ok (.getfield 200, 3) := by decide +kernel
theorem dX0_giveSums_44 : decode cX0_giveSums 44 = .ok (.iload 7, 2) := by decide +kernel
theorem dX0_giveSums_46 : decode cX0_giveSums 46 = .ok (.dup2, 1) := by decide +kernel
theorem dX0_giveSums_47 : decode cX0_giveSums 47 = .ok (.laload, 1) := by decide +kernel
theorem dX0_giveSums_48 : decode cX0_giveSums 48 = .ok (.lload 8, 2) := by decide +kernel
theorem dX0_giveSums_50 : decode cX0_giveSums 50 = .ok (.ladd, 1) := by decide +kernel
theorem dX0_giveSums_51 : decode cX0_giveSums 51 = .ok (.lastore, 1) := by decide +kernel
theorem dX0_giveSums_52 : decode cX0_giveSums 52 = .ok (.lload 5, 2) := by decide +kernel
theorem dX0_giveSums_54 : decode cX0_giveSums 54 = .ok (.lload 8, 2) := by decide +kernel
theorem dX0_giveSums_56 : decode cX0_giveSums 56 = .ok (.ladd, 1) := by decide +kernel
theorem dX0_giveSums_57 : decode cX0_giveSums 57 = .ok (.lstore 5, 2) := by decide +kernel
theorem dX0_giveSums_59 : decode cX0_giveSums 59 = .ok (.iinc 7 1, 3) := by decide +kernel
theorem dX0_giveSums_62 : decode cX0_giveSums 62 = .ok (.goto (-56), 3) := by decide +kernel
theorem dX0_giveSums_65 : decode cX0_giveSums 65 = .ok (.lload 5, 2) := by decide +kernel
theorem dX0_giveSums_67 : decode cX0_giveSums 67 = .ok (.lreturn, 1) := by decide +kernel
theorem dX0_weigh_0 : decode cX0_weigh 0 = .ok (.aload_n 0, 1) := by decide +kernel
theorem dX0_weigh_1 : decode cX0_weigh 1 = .ok (.getfield 21, 3) := by decide +kernel
theorem dX0_weigh_4 : decode cX0_weigh 4 = .ok (.invokevirtual 125, 3) := by decide +kernel
theorem dX0_weigh_7 : decode cX0_weigh 7 = .ok (.iconst 0, 1) := by decide +kernel
theorem dX0_weigh_8 : decode cX0_weigh 8 = .ok (.istore 4, 2) := by decide +kernel
theorem dX0_weigh_10 : decode cX0_weigh 10 = .ok (.iload 4, 2) := by decide +kernel
theorem dX0_weigh_12 : decode cX0_weigh 12 = .ok (.bipush 6, 2) := by decide +kernel
theorem dX0_weigh_14 : decode cX0_weigh 14 = .ok (.if_icmp .ge 44, 3) := by decide +kernel
theorem dX0_weigh_17 : decode cX0_weigh 17 = .ok (.aload_n 1, 1) := by decide +kernel
theorem dX0_weigh_18 : decode cX0_weigh 18 = .ok (.getfield 180, 3) := by decide +kernel
theorem dX0_weigh_21 : decode cX0_weigh 21 = .ok (.iload 4, 2) := by decide +kernel
theorem dX0_weigh_23 : decode cX0_weigh 23 = .ok (.aaload, 1) := by decide +kernel
theorem dX0_weigh_24 : decode cX0_weigh 24 = .ok (.astore 5, 2) := by decide +kernel
theorem dX0_weigh_26 : decode cX0_weigh 26 = .ok (.aload_n 0, 1) := by decide +kernel
theorem dX0_weigh_27 : decode cX0_weigh 27 = .ok (.getfield 21, 3) := by decide +kernel
theorem dX0_weigh_30 : decode cX0_weigh 30 = .ok (.aload 5, 2) := by decide +kernel
theorem dX0_weigh_32 : decode cX0_weigh 32 = .ok (.aload 5, 2) := by decide +kernel
theorem dX0_weigh_34 : decode cX0_weigh 34 = .ok (.ifnonnull 7, 3) := by decide +kernel
theorem dX0_weigh_37 : decode cX0_weigh 37 = .ok (.lconst 0, 1) := by decide +kernel
theorem dX0_weigh_38 : decode cX0_weigh 38 = .ok (.goto 11, 3) := by decide +kernel
theorem dX0_weigh_41 : decode cX0_weigh 41 = .ok (.aload_n 2, 1) := by decide +kernel
theorem dX0_weigh_42 : decode cX0_weigh 42 = .ok (.iload 4, 2) := by decide +kernel
theorem dX0_weigh_44 : decode cX0_weigh 44 = .ok (.iload_n 3, 1) := by decide +kernel
theorem dX0_weigh_45 : decode cX0_weigh 45 = .ok (.invokevirtual 195, 3) := by decide +kernel
theorem dX0_weigh_48 : decode cX0_weigh 48 = .ok (.i2l, 1) := by decide +kernel
theorem dX0_weigh_49 : decode cX0_weigh 49 = .ok (.invokevirtual 130, 3) := by decide +kernel
theorem dX0_weigh_52 : decode cX0_weigh 52 = .ok (.iinc 4 1, 3) := by decide +kernel
theorem dX0_weigh_55 : decode cX0_weigh 55 = .ok (.goto (-45), 3) := by decide +kernel
theorem dX0_weigh_58 : decode cX0_weigh 58 = .ok (.return_, 1) := by decide +kernel
theorem dX0_shareGain_0 : decode cX0_shareGain 0 = .ok (.aload_n 0, 1) := by decide +kernel
theorem dX0_shareGain_1 : decode cX0_shareGain 1 = .ok (.aload_n 1, 1) := by decide +kernel
theorem dX0_shareGain_2 : decode cX0_shareGain 2 = .ok (.aload_n 2, 1) := by decide +kernel
theorem dX0_shareGain_3 : decode cX0_shareGain 3 = .ok (.iconst 2, 1) := by decide +kernel
theorem dX0_shareGain_4 : decode cX0_shareGain 4 = .ok (.invokevirtual 228, 3) := by decide +kernel
theorem dX0_shareGain_7 : decode cX0_shareGain 7 = .ok (.aload_n 1, 1) := by decide +kernel
theorem dX0_shareGain_8 : decode cX0_shareGain 8 = .ok (.lload_n 3, 1) := by decide +kernel
theorem dX0_shareGain_9 : decode cX0_shareGain 9 = .ok (.aload_n 0, 1) := by decide +kernel
theorem dX0_shareGain_10 : decode cX0_shareGain 10 = .ok (.getfield 21, 3) := by decide +kernel
theorem dX0_shareGain_13 : decode cX0_shareGain 13 = .ok (.lload_n 3, 1) := by decide +kernel
theorem dX0_shareGain_14 : decode cX0_shareGain 14 = .ok (.invokevirtual 137, 3) := by decide +kernel
theorem dX0_shareGain_17 : decode cX0_shareGain 17 = .ok (.lsub, 1) := by decide +kernel
theorem dX0_shareGain_18 : decode cX0_shareGain 18 = .ok (.putfield 38, 3) := by decide +kernel
theorem dX0_shareGain_21 : decode cX0_shareGain 21 = .ok (.iconst 0, 1) := by decide +kernel
theorem dX0_shareGain_22 : decode cX0_shareGain 22 = .ok (.istore 5, 2) := by decide +kernel
theorem dX0_shareGain_24 : decode cX0_shareGain 24 = .ok (.iload 5, 2) := by decide +kernel
theorem dX0_shareGain_26 : decode cX0_shareGain 26 = .ok (.bipush 6, 2) := by decide +kernel
theorem dX0_shareGain_28 : decode cX0_shareGain 28 = .ok (.if_icmp .ge 29, 3) := by decide +kernel
theorem dX0_shareGain_31 : decode cX0_shareGain 31 = .ok (.aload_n 1, 1) := by decide +kernel
theorem dX0_shareGain_32 : decode cX0_shareGain 32 = .ok (.getfield 200, 3) := by decide +kernel
theorem dX0_shareGain_35 : decode cX0_shareGain 35 = .ok (.iload 5, 2) := by decide +kernel
theorem dX0_shareGain_37 : decode cX0_shareGain 37 = .ok (.dup2, 1) := by decide +kernel
theorem dX0_shareGain_38 : decode cX0_shareGain 38 = .ok (.laload, 1) := by decide +kernel
theorem dX0_shareGain_39 : decode cX0_shareGain 39 = .ok (.aload_n 0, 1) := by decide +kernel
theorem dX0_shareGain_40 : decode cX0_shareGain 40 = .ok (.getfield 21, 3) := by decide +kernel
theorem dX0_shareGain_43 : decode cX0_shareGain 43 = .ok (.getfield 142, 3) := by decide +kernel
theorem dX0_shareGain_46 : decode cX0_shareGain 46 = .ok (.iload 5, 2) := by decide +kernel
theorem dX0_shareGain_48 : decode cX0_shareGain 48 = .ok (.laload, 1) := by decide +kernel
theorem dX0_shareGain_49 : decode cX0_shareGain 49 = .ok (.ladd, 1) := by decide +kernel
theorem dX0_shareGain_50 : decode cX0_shareGain 50 = .ok (.lastore, 1) := by decide +kernel
theorem dX0_shareGain_51 : decode cX0_shareGain 51 = .ok (.iinc 5 1, 3) := by decide +kernel
theorem dX0_shareGain_54 : decode cX0_shareGain 54 = .ok (.goto (-30), 3) := by decide +kernel
theorem dX0_shareGain_57 : decode cX0_shareGain 57 = .ok (.return_, 1) := by decide +kernel
theorem dX0_shareLack_0 : decode cX0_shareLack 0 = .ok (.aload_n 0, 1) := by decide +kernel
theorem dX0_shareLack_1 : decode cX0_shareLack 1 = .ok (.aload_n 1, 1) := by decide +kernel
theorem dX0_shareLack_2 : decode cX0_shareLack 2 = .ok (.aload_n 2, 1) := by decide +kernel
theorem dX0_shareLack_3 : decode cX0_shareLack 3 = .ok (.iconst 3, 1) := by decide +kernel
theorem dX0_shareLack_4 : decode cX0_shareLack 4 = .ok (.invokevirtual 228, 3) := by decide +kernel
theorem dX0_shareLack_7 : decode cX0_shareLack 7 = .ok (.aload_n 1, 1) := by decide +kernel
theorem dX0_shareLack_8 : decode cX0_shareLack 8 = .ok (.aload_n 0, 1) := by decide +kernel
theorem dX0_shareLack_9 : decode cX0_shareLack 9 = .ok (.getfield 21, 3) := by decide +kernel
theorem dX0_shareLack_12 : decode cX0_shareLack 12 = .ok (.lload_n 3, 1) := by decide +kernel
theorem dX0_shareLack_13 : decode cX0_shareLack 13 = .ok (.invokevirtual 232, 3) := by decide +kernel
theorem dX0_shareLack_16 : decode cX0_shareLack 16 = .ok (.lneg, 1) := by decide +kernel
theorem dX0_shareLack_17 : decode cX0_shareLack 17 = .ok (.putfield 38, 3) := by decide +kernel
theorem dX0_shareLack_20 : decode cX0_shareLack 20 = .ok (.iconst 0, 1) := by decide +kernel
theorem dX0_shareLack_21 : decode cX0_shareLack 21 = .ok (.istore 5, 2) := by decide +kernel
theorem dX0_shareLack_23 : decode cX0_shareLack 23 = .ok (.iload 5, 2) := by decide +kernel
theorem dX0_shareLack_25 : decode cX0_shareLack 25 = .ok (.bipush 6, 2) := by decide +kernel
theorem dX0_shareLack_27 : decode cX0_shareLack 27 = .ok (.if_icmp .ge 63, 3) := by decide +kernel
theorem dX0_shareLack_30 : decode cX0_shareLack 30 = .ok (.aload_n 1, 1) := by decide +kernel
theorem dX0_shareLack_31 : decode cX0_shareLack 31 = .ok (.getfield 180, 3) := by decide +kernel
theorem dX0_shareLack_34 : decode cX0_shareLack 34 = .ok (.iload 5, 2) := by decide +kernel
theorem dX0_shareLack_36 : decode cX0_shareLack 36 = .ok (.aaload, 1) := by decide +kernel
theorem dX0_shareLack_37 : decode cX0_shareLack 37 = .ok (.astore 6, 2) := by decide +kernel
theorem dX0_shareLack_39 : decode cX0_shareLack 39 = .ok (.aload 6, 2) := by decide +kernel
theorem dX0_shareLack_41 : decode cX0_shareLack 41 = .ok (.ifnull 43, 3) := by decide +kernel
theorem dX0_shareLack_44 : decode cX0_shareLack 44 = .ok (.aload_n 1, 1) := by decide +kernel
theorem dX0_shareLack_45 : decode cX0_shareLack 45 = .ok (.getfield 200, 3) := by decide +kernel
theorem dX0_shareLack_48 : decode cX0_shareLack 48 = .ok (.iload 5, 2) := by decide +kernel
theorem dX0_shareLack_50 : decode cX0_shareLack 50 = .ok (.dup2, 1) := by decide +kernel
theorem dX0_shareLack_51 : decode cX0_shareLack 51 = .ok (.laload, 1) := by decide +kernel
theorem dX0_shareLack_52 : decode cX0_shareLack 52 = .ok (.aload_n 0, 1) := by decide +kernel
theorem dX0_shareLack_53 : decode cX0_shareLack 53 = .ok (.getfield 21, 3) := by decide +kernel
theorem dX0_shareLack_56 : decode cX0_shareLack 56 = .ok (.getfield 142, 3) := by decide +kernel
theorem dX0_shareLack_59 : decode cX0_shareLack 59 = .ok (.iload 5, 2) := by decide +kernel
theorem dX0_shareLack_61 : decode cX0_shareLack 61 = .ok (.laload, 1) := by decide +kernel
theorem dX0_shareLack_62 : decode cX0_shareLack 62 = .ok (.lsub, 1) := by decide +kernel
theorem dX0_shareLack_63 : decode cX0_shareLack 63 = .ok (.lastore, 1) := by decide +kernel
theorem dX0_shareLack_64 : decode cX0_shareLack 64 = .ok (.aload 6, 2) := by decide +kernel
theorem dX0_shareLack_66 : decode cX0_shareLack 66 = .ok (.dup, 1) := by decide +kernel
theorem dX0_shareLack_67 : decode cX0_shareLack 67 = .ok (.getfield 235, 3) := by decide +kernel
theorem dX0_shareLack_70 : decode cX0_shareLack 70 = .ok (.aload_n 0, 1) := by decide +kernel
theorem dX0_shareLack_71 : decode cX0_shareLack 71 = .ok (.getfield 21, 3) := by decide +kernel
theorem dX0_shareLack_74 : decode cX0_shareLack 74 = .ok (.getfield 142, 3) := by decide +kernel
theorem dX0_shareLack_77 : decode cX0_shareLack 77 = .ok (.iload 5, 2) := by decide +kernel
theorem dX0_shareLack_79 : decode cX0_shareLack 79 = .ok (.laload, 1) := by decide +kernel
theorem dX0_shareLack_80 : decode cX0_shareLack 80 = .ok (.ladd, 1) := by decide +kernel
theorem dX0_shareLack_81 : decode cX0_shareLack 81 = .ok (.putfield 235, 3) := by decide +kernel
theorem dX0_shareLack_84 : decode cX0_shareLack 84 = .ok (.iinc 5 1, 3) := by decide +kernel
theorem dX0_shareLack_87 : decode cX0_shareLack 87 = .ok (.goto (-64), 3) := by decide +kernel
theorem dX0_shareLack_90 : decode cX0_shareLack 90 = .ok (.return_, 1) := by decide +kernel
theorem dX0_bookDues_0 : decode cX0_bookDues 0 = .ok (.iconst 0, 1) := by decide +kernel
theorem dX0_bookDues_1 : decode cX0_bookDues 1 = .ok (.istore_n 2, 1) := by decide +kernel
theorem dX0_bookDues_2 : decode cX0_bookDues 2 = .ok (.iload_n 2, 1) := by decide +kernel
theorem dX0_bookDues_3 : decode cX0_bookDues 3 = .ok (.aload_n 1, 1) := by decide +kernel
theorem dX0_bookDues_4 : decode cX0_bookDues 4 = .ok (.getfield 238, 3) := by decide +kernel
theorem dX0_bookDues_7 : decode cX0_bookDues 7 = .ok (.if_icmp .ge 90, 3) := by decide +kernel
theorem dX0_bookDues_10 : decode cX0_bookDues 10 = .ok (.aload_n 1, 1) := by decide +kernel
theorem dX0_bookDues_11 : decode cX0_bookDues 11 = .ok (.iload_n 2, 1) := by decide +kernel
theorem dX0_bookDues_12 : decode cX0_bookDues 12 = .ok (.invokevirtual 241, 3) := by decide +kernel
theorem dX0_bookDues_15 : decode cX0_bookDues 15 = .ok (.astore_n 3, 1) := by decide +kernel
theorem dX0_bookDues_16 : decode cX0_bookDues 16 = .ok (.aload_n 3, 1) := by decide +kernel
theorem dX0_bookDues_17 : decode cX0_bookDues 17 = .ok (.ifnonnull 6, 3) := by decide +kernel
theorem dX0_bookDues_20 : decode cX0_bookDues 20 = .ok (.goto 71, 3) := by decide +kernel
theorem dX0_bookDues_23 : decode cX0_bookDues 23 = .ok (.aload_n 3, 1) := by decide +kernel
theorem dX0_bookDues_24 : decode cX0_bookDues 24 = .ok (.lconst 0, 1) := by decide +kernel
theorem dX0_bookDues_25 : decode cX0_bookDues 25 = .ok (.putfield 245, 3) := by decide +kernel
theorem dX0_bookDues_28 : decode cX0_bookDues 28 = .ok (.iconst 0, 1) := by decide +kernel
theorem dX0_bookDues_29 : decode cX0_bookDues 29 = .ok (.istore 4, 2) := by decide +kernel
theorem dX0_bookDues_31 : decode cX0_bookDues 31 = .ok (.iload 4, 2) := by decide +kernel
theorem dX0_bookDues_33 : decode cX0_bookDues 33 = .ok (.aload_n 0, 1) := by decide +kernel
theorem dX0_bookDues_34 : decode cX0_bookDues 34 = .ok (.getfield 25, 3) := by decide +kernel
theorem dX0_bookDues_37 : decode cX0_bookDues 37 = .ok (.if_icmp .ge 41, 3) := by decide +kernel
theorem dX0_bookDues_40 : decode cX0_bookDues 40 = .ok (.aload_n 0, 1) := by decide +kernel
theorem dX0_bookDues_41 : decode cX0_bookDues 41 = .ok (.iload 4, 2) := by decide +kernel
theorem dX0_bookDues_43 : decode cX0_bookDues 43 = .ok (.invokevirtual 34, 3) := by decide +kernel
theorem dX0_bookDues_46 : decode cX0_bookDues 46 = .ok (.astore 5, 2) := by decide +kernel
theorem dX0_bookDues_48 : decode cX0_bookDues 48 = .ok (.aload_n 3, 1) := by decide +kernel
theorem dX0_bookDues_49 : decode cX0_bookDues 49 = .ok (.dup, 1) := by decide +kernel
theorem dX0_bookDues_50 : decode cX0_bookDues 50 = .ok (.getfield 245, 3) := by decide +kernel
theorem dX0_bookDues_53 : decode cX0_bookDues 53 = .ok (.aload 5, 2) := by decide +kernel
theorem dX0_bookDues_55 : decode cX0_bookDues 55 = .ok (.ifnonnull 7, 3) := by decide +kernel
theorem dX0_bookDues_58 : decode cX0_bookDues 58 = .ok (.lconst 0, 1) := by decide +kernel
theorem dX0_bookDues_59 : decode cX0_bookDues 59 = .ok (.goto 9, 3) := by decide +kernel
theorem dX0_bookDues_62 : decode cX0_bookDues 62 = .ok (.aload 5, 2) := by decide +kernel
theorem dX0_bookDues_64 : decode cX0_bookDues 64 = .ok (.aload_n 3, 1) := by decide +kernel
theorem dX0_bookDues_65 : decode cX0_bookDues 65 = .ok (.invokevirtual 247, 3) := by decide +kernel
theorem dX0_bookDues_68 : decode cX0_bookDues 68 = .ok (.ladd, 1) := by decide +kernel
theorem dX0_bookDues_69 : decode cX0_bookDues 69 = .ok (.putfield 245, 3) := by decide +kernel
theorem dX0_bookDues_72 : decode cX0_bookDues 72 = .ok (.iinc 4 1, 3) := by decide +kernel
theorem dX0_bookDues_75 : decode cX0_bookDues 75 = .ok (.goto (-44), 3) := by decide +kernel
theorem dX0_bookDues_78 : decode cX0_bookDues 78 = .ok (.aload_n 3, 1) := by decide +kernel
theorem dX0_bookDues_79 : decode cX0_bookDues 79 = .ok (.dup, 1) := by decide +kernel
theorem dX0_bookDues_80 : decode cX0_bookDues 80 = .ok (.getfield 212, 3) := by decide +kernel
theorem dX0_bookDues_83 : decode cX0_bookDues 83 = .ok (.aload_n 3, 1) := by decide +kernel
theorem dX0_bookDues_84 : decode cX0_bookDues 84 = .ok (.getfield 245, 3) := by decide +kernel
theorem dX0_bookDues_87 : decode cX0_bookDues 87 = .ok (.ladd, 1) := by decide +kernel
theorem dX0_bookDues_88 : decode cX0_bookDues 88 = .ok (.putfield 212, 3) := by decide +kernel
theorem dX0_bookDues_91 : decode cX0_bookDues 91 = .ok (.iinc 2 1, 3) := by decide +kernel
theorem dX0_bookDues_94 : decode cX0_bookDues 94 = .ok (.goto (-92), 3) := by decide +kernel
theorem dX0_bookDues_97 : decode cX0_bookDues 97 = .ok (.return_, 1) := by decide +kernel
theorem dX0_handOver_0 : decode cX0_handOver 0 = .ok (.iconst 0, 1) := by decide +kernel
theorem dX0_handOver_1 : decode cX0_handOver 1 = .ok (.istore_n 3, 1) := by decide +kernel
theorem dX0_handOver_2 : decode cX0_handOver 2 = .ok (.iload_n 3, 1) := by decide +kernel
theorem dX0_handOver_3 : decode cX0_handOver 3 = .ok (.aload_n 1, 1) := by decide +kernel
theorem dX0_handOver_4 : decode cX0_handOver 4 = .ok (.getfield 238, 3) := by decide +kernel
theorem dX0_handOver_7 : decode cX0_handOver 7 = .ok (.if_icmp .ge 49, 3) := by decide +kernel
theorem dX0_handOver_10 : decode cX0_handOver 10 = .ok (.aload_n 1, 1) := by decide +kernel
theorem dX0_handOver_11 : decode cX0_handOver 11 = .ok (.iload_n 3, 1) := by decide +kernel
theorem dX0_handOver_12 : decode cX0_handOver 12 = .ok (.invokevirtual 241, 3) := by decide +kernel
theorem dX0_handOver_15 : decode cX0_handOver 15 = .ok (.astore 4, 2) := by decide +kernel
theorem dX0_handOver_17 : decode cX0_handOver 17 = .ok (.aload 4, 2) := by decide +kernel
theorem dX0_handOver_19 : decode cX0_handOver 19 = .ok (.ifnull 31, 3) := by decide +kernel
theorem dX0_handOver_22 : decode cX0_handOver 22 = .ok (.aload 4, 2) := by decide +kernel
theorem dX0_handOver_24 : decode cX0_handOver 24 = .ok (.getfield 184, 3) := by decide +kernel
theorem dX0_handOver_27 : decode cX0_handOver 27 = .ok (.getfield 251, 3) := by decide +kernel
theorem dX0_handOver_30 : decode cX0_handOver 30 = .ok (.ifnull 20, 3) := by decide +kernel
theorem dX0_handOver_33 : decode cX0_handOver 33 = .ok (.aload 4, 2) := by decide +kernel
theorem dX0_handOver_35 : decode cX0_handOver 35 = .ok (.getfield 184, 3) := by decide +kernel
theorem dX0_handOver_38 : decode cX0_handOver 38 = .ok (.getfield 251, 3) := by decide +kernel
theorem dX0_handOver_41 : decode cX0_handOver 41 = .ok (.iload_n 2, 1) := by decide +kernel
theorem dX0_handOver_42 : decode cX0_handOver 42 = .ok (.aload 4, 2) := by decide +kernel
theorem dX0_handOver_44 : decode cX0_handOver 44 = .ok (.getfield 245, 3) := by decide +kernel
theorem dX0_handOver_47 : decode cX0_handOver 47 = .ok (.invokevirtual 255, 3) := by decide +kernel
theorem dX0_handOver_50 : decode cX0_handOver 50 = .ok (.iinc 3 1, 3) := by decide +kernel
theorem dX0_handOver_53 : decode cX0_handOver 53 = .ok (.goto (-51), 3) := by decide +kernel
theorem dX0_handOver_56 : decode cX0_handOver 56 = .ok (.iconst 0, 1) := by decide +kernel
theorem dX0_handOver_57 : decode cX0_handOver 57 = .ok (.istore_n 3, 1) := by decide +kernel
theorem dX0_handOver_58 : decode cX0_handOver 58 = .ok (.iload_n 3, 1) := by decide +kernel
theorem dX0_handOver_59 : decode cX0_handOver 59 = .ok (.aload_n 1, 1) := by decide +kernel
theorem dX0_handOver_60 : decode cX0_handOver 60 = .ok (.getfield 238, 3) := by decide +kernel
theorem dX0_handOver_63 : decode cX0_handOver 63 = .ok (.if_icmp .ge 45, 3) := by decide +kernel
theorem dX0_handOver_66 : decode cX0_handOver 66 = .ok (.aload_n 1, 1) := by decide +kernel
theorem dX0_handOver_67 : decode cX0_handOver 67 = .ok (.iload_n 3, 1) := by decide +kernel
theorem dX0_handOver_68 : decode cX0_handOver 68 = .ok (.invokevirtual 241, 3) := by decide +kernel
theorem dX0_handOver_71 : decode cX0_handOver 71 = .ok (.astore 4, 2) := by decide +kernel
theorem dX0_handOver_73 : decode cX0_handOver 73 = .ok (.aload 4, 2) := by decide +kernel
theorem dX0_handOver_75 : decode cX0_handOver 75 = .ok (.ifnull 27, 3) := by decide +kernel
theorem dX0_handOver_78 : decode cX0_handOver 78 = .ok (.aload 4, 2) := by decide +kernel
theorem dX0_handOver_80 : decode cX0_handOver 80 = .ok (.invokevirtual 259, 3) := by decide +kernel
theorem dX0_handOver_83 : decode cX0_handOver 83 = .ok (.ifCond .eq 19, 3) := by decide +kernel
theorem dX0_handOver_86 : decode cX0_handOver 86 = .ok (.aload 4, 2) := by decide +kernel
theorem dX0_handOver_88 : decode cX0_handOver 88 = .ok (.getfield 263, 3) := by decide +kernel
theorem dX0_handOver_91 : decode cX0_handOver 91 = .ok (.iload_n 2, 1) := by decide +kernel
theorem dX0_handOver_92 : decode cX0_handOver 92 = .ok (.iconst 1, 1) := by decide +kernel
theorem dX0_handOver_93 : decode cX0_handOver 93 = .ok (.iadd, 1) := by decide +kernel
theorem dX0_handOver_94 : decode cX0_handOver 94 = .ok (.if_icmp .gt 8, 3) := by decide +kernel
theorem dX0_handOver_97 : decode cX0_handOver 97 = .ok (.aload 4, 2) := by decide +kernel
theorem dX0_handOver_99 : decode cX0_handOver 99 = .ok (.invokevirtual 266, 3) := by decide +kernel
theorem dX0_handOver_102 : decode cX0_handOver 102 = .ok (.iinc 3 1, 3) := by decide +kernel
theorem dX0_handOver_105 : decode cX0_handOver 105 = .ok (.goto (-47), 3) := by decide +kernel
theorem dX0_handOver_108 : decode cX0_handOver 108 = .ok (.return_, 1) := by decide +kernel
theorem wd_199 : Cond.fieldLink RX0 25 RX0 "count" "I" ∈ lw_good := mem_t1 193 (by decide +kernel) rfl
theorem wd_200 : Cond.fieldLink RX0 11 RX0 "stretches" "[LPartnersBook$Stretch;" ∈ lw_good := mem_t1 190 (by decide +kernel) rfl
theorem wd_201 : Cond.methodLink RX0 34 yX0_at ∈ lw_good := mem_t4 71 (by decide +kernel) rfl
theorem wd_202 : Cond.instanceMethod yX0_at ∈ lw_good := mem_t4 72 (by decide +kernel) rfl
theorem wd_203 : Cond.selects RX0 yX0_at yX0_at ∈ lw_good := mem_t4 73 (by decide +kernel) rfl
theorem wd_204 : Cond.initialized RX0 ∈ lw_good := mem_t1 10 (by decide +kernel) rfl
theorem wd_205 : Cond.code yX0_at cX0_at 2 (some (.object "PartnersBook$Stretch")) ∈ lw_good := mem_t4 74 rfl rfl
theorem wd_206 : Cond.fieldLink RX0 38 RX8 "nobody" "J" ∈ lw_good := mem_t4 34 (by decide +kernel) rfl
theorem wd_207 : Cond.fieldLink RX0 21 RX0 "shares" "LPartnersBook$Shares;" ∈ lw_good := mem_t1 192 (by decide +kernel) rfl
theorem wd_208 : Cond.methodLink RX0 125 yX7_start ∈ lw_good := mem_t4 67 (by decide +kernel) rfl
theorem wd_209 : Cond.instanceMethod yX7_start ∈ lw_good := mem_t4 68 (by decide +kernel) rfl
theorem wd_210 : Cond.selects RX7 yX7_start yX7_start ∈ lw_good := mem_t4 69 (by decide +kernel) rfl
theorem wd_211 : Cond.code yX7_start cX7_start 1 none ∈ lw_good := mem_t4 70 rfl rfl
theorem wd_212 : Cond.fieldLink RX0 180 RX8 "tenures" "[LPartnersBook$Tenure;" ∈ lw_good := mem_t4 24 (by decide +kernel) rfl
theorem wd_213 : Cond.methodLink RX0 130 yX7_add ∈ lw_good := mem_t4 75 (by decide +kernel) rfl
theorem wd_214 : Cond.instanceMethod yX7_add ∈ lw_good := mem_t4 76 (by decide +kernel) rfl
theorem wd_215 : Cond.selects RX7 yX7_add yX7_add ∈ lw_good := mem_t4 77 (by decide +kernel) rfl
theorem wd_216 : Cond.code yX7_add cX7_add 4 none ∈ lw_good := mem_t4 78 rfl rfl
theorem wd_217 : Cond.methodLink RX0 195 yX6_termOf ∈ lw_good := mem_t4 115 (by decide +kernel) rfl
theorem wd_218 : Cond.fieldLink RX0 184 RX9 "partner" "LPartnersBook$Partner;" ∈ lw_good := mem_t2 190 (by decide +kernel) rfl
theorem wd_219 : Cond.fieldLink RX0 190 RX4 "kind" "I" ∈ lw_good := mem_t2 81 (by decide +kernel) rfl
theorem wd_220 : Cond.fieldLink RX0 112 RX8 "days" "I" ∈ lw_good := mem_t4 30 (by decide +kernel) rfl
theorem wd_221 : Cond.fieldLink RX0 200 RX8 "dues" "[J" ∈ lw_good := mem_t4 26 (by decide +kernel) rfl
theorem wd_222 : Cond.fieldLink RX0 212 RX9 "credit" "J" ∈ lw_good := mem_t2 212 (by decide +kernel) rfl
theorem wd_223 : Cond.fieldLink RX0 17 RX0 "dayMoves" "[J" ∈ lw_good := mem_t1 191 (by decide +kernel) rfl
theorem wd_224 : Cond.methodLink RX0 215 yJ7_fill_d0a16 ∈ lw_good := mem_t4 127 (by decide +kernel) rfl
theorem wd_225 : Cond.fieldLink RX0 80 RX1 "count" "I" ∈ lw_good := mem_t1 153 (by decide +kernel) rfl
theorem wd_226 : Cond.methodLink RX0 222 Lib.MathLoose.max_long.x ∈ lw_good := mem_t4 128 (by decide +kernel) rfl
theorem wd_227 : Cond.fieldLink RX0 174 RX1 "days" "[I" ∈ lw_good := mem_t1 149 (by decide +kernel) rfl
theorem wd_228 : Cond.fieldLink RX0 145 RX8 "firstDay" "I" ∈ lw_good := mem_t4 28 (by decide +kernel) rfl
theorem wd_229 : Cond.fieldLink RX0 221 RX1 "tenures" "[LPartnersBook$Tenure;" ∈ lw_good := mem_t1 147 (by decide +kernel) rfl
theorem wd_230 : Cond.fieldLink RX0 177 RX1 "sums" "[I" ∈ lw_good := mem_t1 151 (by decide +kernel) rfl
theorem wd_231 : Cond.fieldLink RX0 203 RX6 "thousandths" "I" ∈ lw_good := mem_t3 59 (by decide +kernel) rfl
theorem wd_232 : Cond.fieldLink RX0 66 RX2 "moves" "LPartnersBook$DaySums;" ∈ lw_good := mem_t2 4 (by decide +kernel) rfl
theorem wd_233 : Cond.methodLink RX0 206 yX0_creditDays ∈ lw_good := mem_t4 123 (by decide +kernel) rfl
theorem wd_234 : Cond.instanceMethod yX0_creditDays ∈ lw_good := mem_t4 125 (by decide +kernel) rfl
theorem wd_235 : Cond.selects RX0 yX0_creditDays yX0_creditDays ∈ lw_good := mem_p 16 (by decide +kernel) rfl
theorem wd_236 : Cond.code yX0_creditDays cX0_creditDays 9 (some .long) ∈ lw_good := mem_t4 126 rfl rfl
theorem wd_237 : Cond.constantLong RX0 210 360000 ∈ lw_good := mem_t4 131 (by decide +kernel) rfl
theorem wd_238 : Cond.methodLink RX0 225 Lib.MathLoose.min_long.x ∈ lw_good := mem_t4 136 (by decide +kernel) rfl
theorem wd_239 : Cond.methodLink RX0 228 yX0_weigh ∈ lw_good := mem_t4 143 (by decide +kernel) rfl
theorem wd_240 : Cond.instanceMethod yX0_weigh ∈ lw_good := mem_t4 145 (by decide +kernel) rfl
theorem wd_241 : Cond.selects RX0 yX0_weigh yX0_weigh ∈ lw_good := mem_p 19 (by decide +kernel) rfl
theorem wd_242 : Cond.code yX0_weigh cX0_weigh 6 none ∈ lw_good := mem_t4 146 rfl rfl
theorem wd_243 : Cond.methodLink RX0 137 yX7_cut ∈ lw_good := mem_t4 79 (by decide +kernel) rfl
theorem wd_244 : Cond.fieldLink RX0 142 RX7 "parts" "[J" ∈ lw_good := mem_t1 42 (by decide +kernel) rfl
theorem wd_245 : Cond.methodLink RX0 232 yX7_shareLoss ∈ lw_good := mem_t4 151 (by decide +kernel) rfl
theorem wd_246 : Cond.instanceMethod yX7_shareLoss ∈ lw_good := mem_t4 152 (by decide +kernel) rfl
theorem wd_247 : Cond.selects RX7 yX7_shareLoss yX7_shareLoss ∈ lw_good := mem_t4 153 (by decide +kernel) rfl
theorem wd_248 : Cond.code yX7_shareLoss cX7_shareLoss 8 (some .long) ∈ lw_good := mem_t4 154 rfl rfl
theorem wd_249 : Cond.fieldLink RX0 235 RX9 "borneSum" "J" ∈ lw_good := mem_t2 216 (by decide +kernel) rfl
theorem wd_250 : Cond.methodLink RX0 148 yX2_ruleOn ∈ lw_good := mem_t4 98 (by decide +kernel) rfl
theorem wd_251 : Cond.methodLink RX0 152 yX8_seatAll ∈ lw_good := mem_t4 102 (by decide +kernel) rfl
theorem wd_252 : Cond.instanceMethod yX8_seatAll ∈ lw_good := mem_t4 103 (by decide +kernel) rfl
theorem wd_253 : Cond.selects RX8 yX8_seatAll yX8_seatAll ∈ lw_good := mem_t4 104 (by decide +kernel) rfl
theorem wd_254 : Cond.code yX8_seatAll cX8_seatAll 3 none ∈ lw_good := mem_t4 105 rfl rfl
theorem wd_255 : Cond.fieldLink RX0 115 RX8 "result" "J" ∈ lw_good := mem_t4 32 (by decide +kernel) rfl
theorem wd_256 : Cond.methodLink RX0 155 yX0_giveWages ∈ lw_good := mem_t4 111 (by decide +kernel) rfl
theorem wd_257 : Cond.instanceMethod yX0_giveWages ∈ lw_good := mem_t4 113 (by decide +kernel) rfl
theorem wd_258 : Cond.selects RX0 yX0_giveWages yX0_giveWages ∈ lw_good := mem_p 14 (by decide +kernel) rfl
theorem wd_259 : Cond.code yX0_giveWages cX0_giveWages 9 (some .long) ∈ lw_good := mem_t4 114 rfl rfl
theorem wd_260 : Cond.methodLink RX0 159 yX0_giveInterest ∈ lw_good := mem_t4 119 (by decide +kernel) rfl
theorem wd_261 : Cond.instanceMethod yX0_giveInterest ∈ lw_good := mem_t4 121 (by decide +kernel) rfl
theorem wd_262 : Cond.selects RX0 yX0_giveInterest yX0_giveInterest ∈ lw_good := mem_p 15 (by decide +kernel) rfl
theorem wd_263 : Cond.code yX0_giveInterest cX0_giveInterest 10 (some .long) ∈ lw_good := mem_t4 122 rfl rfl
theorem wd_264 : Cond.methodLink RX0 171 yX0_shareLack ∈ lw_good := mem_t4 147 (by decide +kernel) rfl
theorem wd_265 : Cond.instanceMethod yX0_shareLack ∈ lw_good := mem_t4 149 (by decide +kernel) rfl
theorem wd_266 : Cond.selects RX0 yX0_shareLack yX0_shareLack ∈ lw_good := mem_p 20 (by decide +kernel) rfl
theorem wd_267 : Cond.code yX0_shareLack cX0_shareLack 7 none ∈ lw_good := mem_t4 150 rfl rfl
theorem wd_268 : Cond.methodLink RX0 163 yX0_giveSums ∈ lw_good := mem_t4 132 (by decide +kernel) rfl
theorem wd_269 : Cond.instanceMethod yX0_giveSums ∈ lw_good := mem_t4 134 (by decide +kernel) rfl
theorem wd_270 : Cond.selects RX0 yX0_giveSums yX0_giveSums ∈ lw_good := mem_p 17 (by decide +kernel) rfl
theorem wd_271 : Cond.code yX0_giveSums cX0_giveSums 10 (some .long) ∈ lw_good := mem_t4 135 rfl rfl
theorem wd_272 : Cond.methodLink RX0 167 yX0_shareGain ∈ lw_good := mem_t4 139 (by decide +kernel) rfl
theorem wd_273 : Cond.instanceMethod yX0_shareGain ∈ lw_good := mem_t4 141 (by decide +kernel) rfl
theorem wd_274 : Cond.selects RX0 yX0_shareGain yX0_shareGain ∈ lw_good := mem_p 18 (by decide +kernel) rfl
theorem wd_275 : Cond.code yX0_shareGain cX0_shareGain 6 none ∈ lw_good := mem_t4 142 rfl rfl
theorem wd_276 : Cond.fieldLink RX0 134 RX2 "looseSum" "J" ∈ lw_good := mem_t1 239 (by decide +kernel) rfl
theorem wd_277 : Cond.fieldLink RX0 141 RX7 "count" "I" ∈ lw_good := mem_t1 47 (by decide +kernel) rfl
theorem wd_278 : Cond.fieldLink RX0 238 RX2 "tenureCount" "I" ∈ lw_good := mem_t1 229 (by decide +kernel) rfl
theorem wd_279 : Cond.methodLink RX0 241 yX2_tenureAt ∈ lw_good := mem_t4 175 (by decide +kernel) rfl
theorem wd_280 : Cond.fieldLink RX0 245 RX9 "dues" "J" ∈ lw_good := mem_t2 222 (by decide +kernel) rfl
theorem wd_281 : Cond.methodLink RX0 247 yX8_dueOf ∈ lw_good := mem_t4 176 (by decide +kernel) rfl
theorem wd_282 : Cond.instanceMethod yX8_dueOf ∈ lw_good := mem_t4 177 (by decide +kernel) rfl
theorem wd_283 : Cond.selects RX8 yX8_dueOf yX8_dueOf ∈ lw_good := mem_t4 178 (by decide +kernel) rfl
theorem wd_284 : Cond.code yX8_dueOf cX8_dueOf 2 (some .long) ∈ lw_good := mem_t4 179 rfl rfl
theorem wd_285 : Cond.methodLink RX0 259 yX9_hasEnded ∈ lw_good := mem_t4 198 (by decide +kernel) rfl
theorem wd_286 : Cond.fieldLink RX0 263 RX9 "end" "I" ∈ lw_good := mem_t2 203 (by decide +kernel) rfl
theorem wd_287 : Cond.methodLink RX0 266 yX9_payOut ∈ lw_good := mem_t4 199 (by decide +kernel) rfl
theorem wd_288 : Cond.instanceMethod yX9_payOut ∈ lw_good := mem_t4 200 (by decide +kernel) rfl
theorem wd_289 : Cond.selects RX9 yX9_payOut yX9_payOut ∈ lw_good := mem_t4 201 (by decide +kernel) rfl
theorem wd_290 : Cond.code yX9_payOut cX9_payOut 3 none ∈ lw_good := mem_t4 202 rfl rfl
theorem wd_291 : Cond.fieldLink RX0 251 RX4 "owner" "LPartnersBook$House;" ∈ lw_good := mem_t2 87 (by decide +kernel) rfl
theorem wd_292 : Cond.methodLink RX0 255 yX2_receive ∈ lw_good := mem_t4 194 (by decide +kernel) rfl
theorem wd_293 : Cond.instanceMethod yX2_receive ∈ lw_good := mem_t4 195 (by decide +kernel) rfl
theorem wd_294 : Cond.selects RX2 yX2_receive yX2_receive ∈ lw_good := mem_t4 196 (by decide +kernel) rfl
theorem wd_295 : Cond.code yX2_receive cX2_receive 5 none ∈ lw_good := mem_t4 197 rfl rfl
set_option maxHeartbeats 4000000 in
set_option maxRecDepth 100000 in
theorem s_X0_at (l : Launch) (D : va_G) (cy : Nat → ClassId) (K : Kp) (L : List Nat) (M : Hp) (sz : Nat) (oa : Nat) (k1 : Int32) (hW : WOK cy K L M) (ia : isk K L oa 0 0) : Met l yX0_at (wsM yX0_at cX0_at 2 (some (.object "PartnersBook$Stretch"))) ({ frames := 0, cells := 0, slots := 0, locals := 0 }) (va_Pc [.ref oa, .int k1] (PG D cy [] L M sz)) (va_Qq (fun (r : Option Nat) (_ : Unit) => iskN K L r 8 0) (fun _ t => PQ D [] L M (va_A ([] ++ va_pl L M) sz) t) (va_A ([] ++ va_pl L M) sz)) 0 0 (va_A ([] ++ va_pl L M) sz) := by
  refine Met.ofW (cc := cX0_at) (maxL := 2) (ret := (some (.object "PartnersBook$Stretch"))) (by decide) rfl ?_
  intro p e s m args below meth c s₁ B hml hv
  obtain ⟨rfl, hsz, hP, hK, hD0, hN⟩ := hv
  have hx := B.exec
  have hb := B.bytes
  have hr := B.returns
  have hts := atoms_spec (ws := (wsM yX0_at cX0_at 2 (some (.object "PartnersBook$Stretch")))) B.pre
  have hg : ∀ w ∈ lw_good, w.before _ s = true := fun w h => hts w (List.mem_cons_of_mem _ h)
  have hown : s.vm.findClass RX0 = some m.cls := findClass_of_methodNamed B.named
  have hlocks := B.notSynchronized
  subst hsz
  have hD := hD0.self (sz := s.heap.size)
  generalize hAe : va_A ([] ++ va_pl L M) s.heap.size = A at hD ⊢
  have hA : ∀ q : Nat, s.heap.size ≤ q → A q := fun q h => by rw [← hAe]; exact Or.inr h
  have hS : va_S A s.heap s.heap [] := va_S.rf
  have hl := lv_entry ([.ref oa, .int k1]) (n := 2) (Nat.le_of_ble_eq_true rfl)
  rw [lg_entry_eq]
  generalize (lg_sl ([.ref oa, .int k1]) ++ List.replicate (2 - (lg_sl ([.ref oa, .int k1])).length) Slot.unset).toArray = ls at hl ⊢
  refine W.nameQ (fun Q hQ => ?_)
  refine W.nameR (fun R hR => ?_)
  have hRf : 0 ≤ R.frames := by rw [hR]; exact Nat.le_of_ble_eq_true rfl
  have hRl : 0 ≤ R.locals := by rw [hR]; exact Nat.le_of_ble_eq_true rfl
  have hRc : 0 ≤ R.cells := by rw [hR]; exact Nat.le_of_ble_eq_true rfl
  have hRs : 0 ≤ R.slots := by rw [hR]; exact Nat.le_of_ble_eq_true rfl
  have hl : lv_has ls 2 [(0, .ref oa), (1, .int k1)] := hl
  refine lv_iload_n hx hb dX0_at_0 rfl (lv_at hl 1 rfl) ?_
  refine lv_if_lt (tgt := 30) hx hb dX0_at_1 (by decide) (fun c_1 => ?_) (fun c_1 => ?_)
  · have hz := rfl (a := 0)
    refine lv_null hx hb dX0_at_30 ?_
    rw [hQ]
    exact W.aret (v := .null) hx hb hr (Or.inl ⟨_, rfl⟩) (Or.inl rfl) (fun t ht hW9 => ⟨⟨none, (), rfl, iskN.none, ⟨by rw [ht]; exact hP, hD⟩⟩, hS.F ht⟩) hS.2.2 dX0_at_31
  · have hz := rfl (a := 0)
    refine lv_iload_n hx hb dX0_at_4 rfl (lv_at hl 1 rfl) ?_
    refine lv_aload_n hx hb dX0_at_5 rfl (lv_at hl 0 rfl) ?_
    obtain ⟨v2_0, v2_1, v2_2, v2_3, v2_4, hM2, h2_0, h2_1, h2_2, h2_3⟩ := hW.open_0 ia
    refine pg_get (D := D) (ci := 0) (v := .int (nI v2_3)) (C := RX0) (T := TX0) (N := 5) hx hb hg inG0 hown hK hP ia.1 hM2 rfl 3 (by decide) (hg _ wd_199) (fun _ h9 => h9) rfl dX0_at_6 ?_
    refine lv_icmp_ge (tgt := 30) hx hb dX0_at_9 (by decide) (fun c_3 => ?_) (fun c_3 => ?_)
    · have hz := rfl (a := 0)
      refine lv_null hx hb dX0_at_30 ?_
      rw [hQ]
      exact W.aret (v := .null) hx hb hr (Or.inl ⟨_, rfl⟩) (Or.inl rfl) (fun t ht hW9 => ⟨⟨none, (), rfl, iskN.none, ⟨by rw [ht]; exact hP, hD⟩⟩, hS.F ht⟩) hS.2.2 dX0_at_31
    · have hz := rfl (a := 0)
      refine lv_iload_n hx hb dX0_at_12 rfl (lv_at hl 1 rfl) ?_
      refine lv_aload_n hx hb dX0_at_13 rfl (lv_at hl 0 rfl) ?_
      refine pg_get (D := D) (ci := 0) (v := .ref v2_0) (C := RX0) (T := TX0) (N := 5) hx hb hg inG0 hown hK hP ia.1 hM2 rfl 0 (by decide) (hg _ wd_200) (fun _ h9 => h9) rfl dX0_at_14 ?_
      obtain ⟨f4, hM4, hf4⟩ := hW.open_21 h2_0
      refine pg_alen (v := 120) hx hb hK hP h2_0.1 7 hM4 rfl (by rfl) dX0_at_17 ?_
      refine lv_icmp_ge (tgt := 30) hx hb dX0_at_18 (by decide) (fun c_5 => ?_) (fun c_5 => ?_)
      · have hz := rfl (a := 0)
        refine lv_null hx hb dX0_at_30 ?_
        rw [hQ]
        exact W.aret (v := .null) hx hb hr (Or.inl ⟨_, rfl⟩) (Or.inl rfl) (fun t ht hW9 => ⟨⟨none, (), rfl, iskN.none, ⟨by rw [ht]; exact hP, hD⟩⟩, hS.F ht⟩) hS.2.2 dX0_at_31
      · have hz := rfl (a := 0)
        refine lv_aload_n hx hb dX0_at_21 rfl (lv_at hl 0 rfl) ?_
        refine pg_get (D := D) (ci := 0) (v := .ref v2_0) (C := RX0) (T := TX0) (N := 5) hx hb hg inG0 hown hK hP ia.1 hM2 rfl 0 (by decide) (hg _ wd_200) (fun _ h9 => h9) rfl dX0_at_22 ?_
        refine lv_iload_n hx hb dX0_at_25 rfl (lv_at hl 1 rfl) ?_
        have hi_6 : vp_in k1 120 := (inb k1 120 (by omega) c_1 c_5)
        refine pg_aldq hx hb hK hP h2_0.1 7 hM4 rfl hi_6 dX0_at_26 ?_
        obtain ⟨q_7, ho_8⟩ : ∃ q : Option Nat, q = f4 (k1 : Int32).toNatClampNeg := ⟨_, rfl⟩
        rw [← ho_8]
        have hq_9 : iskN K L q_7 8 0 := by rw [ho_8]; exact hf4 _ (vp_lt hi_6)
        rcases q_7 with _ | bq_7
        · have hz := rfl (a := 0)
          refine lv_goto (tgt := 31) hx hb dX0_at_27 (by decide) ?_
          rw [hQ]
          exact W.aret (v := .null) hx hb hr (Or.inl ⟨_, rfl⟩) (Or.inl rfl) (fun t ht hW9 => ⟨⟨none, (), rfl, iskN.none, ⟨by rw [ht]; exact hP, hD⟩⟩, hS.F ht⟩) hS.2.2 dX0_at_31
        · have hb_10 := hq_9 bq_7 rfl
          refine lv_goto (tgt := 31) hx hb dX0_at_27 (by decide) ?_
          rw [hQ]
          exact W.aret (v := .ref bq_7) hx hb hr (Or.inl ⟨_, rfl⟩) (Or.inr ⟨_, rfl⟩) (fun t ht hW9 => ⟨⟨(some bq_7), (), rfl, iskN.some hb_10, ⟨by rw [ht]; exact hP, hD⟩⟩, hS.F ht⟩) hS.2.2 dX0_at_31
set_option maxHeartbeats 4000000 in
set_option maxRecDepth 100000 in
theorem s_X0_nobodyOfLatest (l : Launch) (D : va_G) (cy : Nat → ClassId) (K : Kp) (L : List Nat) (M : Hp) (sz : Nat) (oa : Nat) (hW : WOK cy K L M) (ia : isk K L oa 0 0) : Met l yX0_nobodyOfLatest (wsM yX0_nobodyOfLatest cX0_nobodyOfLatest 5 (some .long)) ({ frames := 1, cells := 0, slots := 0, locals := 21 }) (va_Pc [.ref oa] (PG D cy [] L M sz)) (va_Ql (fun (r : Int64) (_ : Unit) => True) (fun _ t => PQ D [] L M (va_A ([] ++ va_pl L M) sz) t) (va_A ([] ++ va_pl L M) sz)) 0 0 (va_A ([] ++ va_pl L M) sz) := by
  refine Met.ofW (cc := cX0_nobodyOfLatest) (maxL := 5) (ret := (some .long)) (by decide) rfl ?_
  intro p e s m args below meth c s₁ B hml hv
  obtain ⟨rfl, hsz, hP, hK, hD0, hN⟩ := hv
  have hx := B.exec
  have hb := B.bytes
  have hr := B.returns
  have hts := atoms_spec (ws := (wsM yX0_nobodyOfLatest cX0_nobodyOfLatest 5 (some .long))) B.pre
  have hg : ∀ w ∈ lw_good, w.before _ s = true := fun w h => hts w (List.mem_cons_of_mem _ h)
  have hown : s.vm.findClass RX0 = some m.cls := findClass_of_methodNamed B.named
  have hlocks := B.notSynchronized
  subst hsz
  have hD := hD0.self (sz := s.heap.size)
  generalize hAe : va_A ([] ++ va_pl L M) s.heap.size = A at hD ⊢
  have hA : ∀ q : Nat, s.heap.size ≤ q → A q := fun q h => by rw [← hAe]; exact Or.inr h
  have hS : va_S A s.heap s.heap [] := va_S.rf
  have hl := lv_entry ([.ref oa]) (n := 5) (Nat.le_of_ble_eq_true rfl)
  rw [lg_entry_eq]
  generalize (lg_sl ([.ref oa]) ++ List.replicate (5 - (lg_sl ([.ref oa])).length) Slot.unset).toArray = ls at hl ⊢
  refine W.nameQ (fun Q hQ => ?_)
  refine W.nameR (fun R hR => ?_)
  have hRf : 1 ≤ R.frames := by rw [hR]; exact Nat.le_of_ble_eq_true rfl
  have hRl : 21 ≤ R.locals := by rw [hR]; exact Nat.le_of_ble_eq_true rfl
  have hRc : 0 ≤ R.cells := by rw [hR]; exact Nat.le_of_ble_eq_true rfl
  have hRs : 0 ≤ R.slots := by rw [hR]; exact Nat.le_of_ble_eq_true rfl
  have hl : lv_has ls 5 [(0, .ref oa)] := hl
  refine lv_lconst (v := 0) hx hb dX0_nobodyOfLatest_0 (by decide) ?_
  refine lv_lstore_n (lv' := [(1, .long 0), (0, .ref oa)]) hx hb dX0_nobodyOfLatest_1 rfl hl (by decide) rfl (fun ls hl => ?_)
  refine lv_iconst (v := 0) hx hb dX0_nobodyOfLatest_2 (by decide) ?_
  refine lv_istore_n (lv' := [(3, .int 0), (1, .long 0), (0, .ref oa)]) hx hb dX0_nobodyOfLatest_3 rfl hl (by decide) rfl (fun ls hl => ?_)
  have key_1 : ∀ (fu_3 : Nat) (v3w4 : Nat) (v1w4 : Int64) (H_6 : Heap) (locs : List Loc) (ls : Array Slot), 120 - v3w4 < fu_3 → v3w4 ≤ 120 → WOK cy K L M → va_P D vwCl ([] ++ va_pl L M) H_6 → va_D A ([] ++ va_pl L M) → va_S A s.heap H_6 locs → lv_has ls 5 [(3, .int (nI v3w4)), (1, .long v1w4), (0, .ref oa)] → W p l e R s m ([.ref oa] : List Value).toArray below meth c H_6 locs 0 0 Q (F0 m 4 ls []) := by
    intro fu_3
    induction fu_3 with
    | zero => intro v3w4 v1w4 H_6 locs ls h; exact absurd h (Nat.not_lt_zero _)
    | succ fu_3 ih_2 =>
      intro v3w4 v1w4 H_6 locs ls hfu hx_5 hW hP hD hS hl
      refine lv_iload_n hx hb dX0_nobodyOfLatest_4 rfl (lv_at hl 0 rfl) ?_
      refine lv_aload_n hx hb dX0_nobodyOfLatest_5 rfl (lv_at hl 2 rfl) ?_
      obtain ⟨v7_0, v7_1, v7_2, v7_3, v7_4, hM7, h7_0, h7_1, h7_2, h7_3⟩ := hW.open_0 ia
      refine pg_get (D := D) (ci := 0) (v := .int (nI v7_3)) (C := RX0) (T := TX0) (N := 5) hx hb hg inG0 hown hK hP ia.1 hM7 rfl 3 (by decide) (hg _ wd_199) (fun _ h9 => h9) rfl dX0_nobodyOfLatest_6 ?_
      refine lv_icmp_ge (tgt := 42) hx hb dX0_nobodyOfLatest_9 (by decide) (fun c_8 => ?_) (fun c_8 => ?_)
      · have hz := rfl (a := 0)
        have n_9 : v7_3 ≤ v3w4 := (iLE (a := v7_3) (b := v3w4) (by omega) (by omega)).mp c_8
        refine lv_lload_n hx hb dX0_nobodyOfLatest_42 rfl (lv_at hl 1 rfl) ?_
        rw [hQ]
        exact W.lret (v := v1w4) hx hb hr (fun t ht hW9 => ⟨⟨v1w4, (), rfl, trivial, ⟨by rw [ht]; exact hP, hD⟩⟩, hS.F ht⟩) hS.2.2 dX0_nobodyOfLatest_43
      · have hz := rfl (a := 0)
        have n_10 : ¬ (v7_3 ≤ v3w4) := fun q => c_8 ((iLE (a := v7_3) (b := v3w4) (by omega) (by omega)).mpr q)
        refine lv_aload_n hx hb dX0_nobodyOfLatest_12 rfl (lv_at hl 2 rfl) ?_
        refine lv_iload_n hx hb dX0_nobodyOfLatest_13 rfl (lv_at hl 0 rfl) ?_
        have hPc : va_P D vwCl ([] ++ va_pl L M) H_6 := hP
        have hDc : va_D A ([] ++ va_pl L M) := hD
        have hFc : ∀ q, va_A ([] ++ va_pl L M) H_6.size q → A q := pg_free hDc hS hA
        refine va_callq (va_runV (As := [.int (nI v3w4)]) (rest := []) ⟨hx, hb, hml, hown, hg⟩ (s_X0_at l D cy K L M H_6.size oa (nI v3w4)  hW ia) (cwV 1 hg (gV wd_201 wd_202 wd_203 wd_204 wd_205) rfl rfl rfl (by decide +kernel) ⟨(Nat.le_trans (Nat.le_of_ble_eq_true rfl) hRf), (Nat.le_trans (Nat.le_of_ble_eq_true rfl) hRl)⟩) ⟨PG.blind, pg_recv hK hP ia.1 hM7 rfl, fun U hU hW => ⟨rfl, PG.at hPc hK hDc hN hU hW⟩⟩ rfl rfl hl.1 rfl (lv_room (Nat.le_of_ble_eq_true rfl)) dX0_nobodyOfLatest_14 ⟨(Nat.le_trans (Nat.le_of_ble_eq_true rfl) hRc), (Nat.le_trans (Nat.le_of_ble_eq_true rfl) hRs)⟩) hS (fun q _ h => hFc q h) hFc (fun r_12 M_13 t H_11 locs ht hvm hw hB hz1 hk1 hS => ?_)
        have hp_14 := hw
        obtain ⟨hP1, hD1⟩ := hB
        rw [ht] at hP1
        have hP : va_P D vwCl ([] ++ va_pl L M) H_11 := hP1
        have hD : va_D A ([] ++ va_pl L M) := hD1.mono hFc
        rcases r_12 with _ | b_15
        · have hz := rfl (a := 0)
          refine lv_astoreN (lv' := [(4, .null), (3, .int (nI v3w4)), (1, .long v1w4), (0, .ref oa)]) hx hb dX0_nobodyOfLatest_17 hl (by decide) rfl (fun ls hl => ?_)
          refine lv_lload_n hx hb dX0_nobodyOfLatest_19 rfl (lv_at hl 2 rfl) ?_
          refine lv_aloadN hx hb dX0_nobodyOfLatest_20 (lv_at hl 0 rfl) ?_
          refine lv_ifnonnullN hx hb dX0_nobodyOfLatest_22 ?_
          refine lv_lconst (v := 0) hx hb dX0_nobodyOfLatest_25 (by decide) ?_
          refine lv_goto (tgt := 34) hx hb dX0_nobodyOfLatest_26 (by decide) ?_
          refine lv_ladd hx hb dX0_nobodyOfLatest_34 ?_
          refine lv_topl (fun f_16 ef_16 => ?_)
          refine lv_lstore_n (lv' := [(1, .long f_16), (4, .null), (3, .int (nI v3w4)), (0, .ref oa)]) hx hb dX0_nobodyOfLatest_35 rfl hl (by decide) rfl (fun ls hl => ?_)
          refine lv_iinc (v := (nI (v3w4 + 1))) (lv' := [(3, .int (nI (v3w4 + 1))), (1, .long f_16), (4, .null), (0, .ref oa)]) hx hb dX0_nobodyOfLatest_36 hl (k := 2) rfl (nI_1 v3w4) (by decide) rfl (fun ls hl => ?_)
          refine lv_goto (tgt := 4) hx hb dX0_nobodyOfLatest_39 (by decide) ?_
          exact ih_2 (v3w4 + 1) f_16 H_11 _ _ (by omega) (by omega) hW hP hD hS (lv_sub hl [0, 1, 3] rfl)
        · have hb_17 := hp_14 b_15 rfl
          refine lv_astore (lv' := [(4, .ref b_15), (3, .int (nI v3w4)), (1, .long v1w4), (0, .ref oa)]) hx hb dX0_nobodyOfLatest_17 hl (by decide) rfl (fun ls hl => ?_)
          refine lv_lload_n hx hb dX0_nobodyOfLatest_19 rfl (lv_at hl 2 rfl) ?_
          refine lv_aload hx hb dX0_nobodyOfLatest_20 (lv_at hl 0 rfl) ?_
          refine lv_ifnonnull (tgt := 29) hx hb dX0_nobodyOfLatest_22 (by decide) ?_
          refine lv_aload hx hb dX0_nobodyOfLatest_29 (lv_at hl 0 rfl) ?_
          obtain ⟨v18_0, v18_1, v18_2, v18_3, v18_4, v18_5, hM18, h18_0, h18_1⟩ := hW.open_8 hb_17
          refine pg_get (D := D) (ci := 8) (v := .long v18_5) (C := RX8) (T := TX8) (N := 6) hx hb hg inG8 hown hK hP hb_17.1 hM18 rfl 5 (by decide) (hg _ wd_206) (fun _ h9 => h9) rfl dX0_nobodyOfLatest_31 ?_
          refine lv_ladd hx hb dX0_nobodyOfLatest_34 ?_
          refine lv_topl (fun f_19 ef_19 => ?_)
          refine lv_lstore_n (lv' := [(1, .long f_19), (4, .ref b_15), (3, .int (nI v3w4)), (0, .ref oa)]) hx hb dX0_nobodyOfLatest_35 rfl hl (by decide) rfl (fun ls hl => ?_)
          refine lv_iinc (v := (nI (v3w4 + 1))) (lv' := [(3, .int (nI (v3w4 + 1))), (1, .long f_19), (4, .ref b_15), (0, .ref oa)]) hx hb dX0_nobodyOfLatest_36 hl (k := 2) rfl (nI_1 v3w4) (by decide) rfl (fun ls hl => ?_)
          refine lv_goto (tgt := 4) hx hb dX0_nobodyOfLatest_39 (by decide) ?_
          exact ih_2 (v3w4 + 1) f_19 H_11 _ _ (by omega) (by omega) hW hP hD hS (lv_sub hl [0, 1, 3] rfl)
  exact key_1 (120 - 0 + 1) 0 0 s.heap _ _ (by omega) (by omega) hW hP hD hS (lv_sub hl [0, 1, 2] rfl)
set_option maxHeartbeats 4000000 in
set_option maxRecDepth 100000 in
theorem s_X0_weigh (l : Launch) (D : va_G) (cy : Nat → ClassId) (K : Kp) (L : List Nat) (M : Hp) (sz : Nat) (oa : Nat) (k1 : Nat) (k2 : Nat) (k3 : Int32) (hW : WOK cy K L M) (ia : isk K L oa 0 0) (ik1 : isk K L k1 8 0) (ik2 : isk K L k2 6 0) : Met l yX0_weigh (wsM yX0_weigh cX0_weigh 6 none) ({ frames := 2, cells := 0, slots := 0, locals := 43 }) (va_Pc [.ref oa, .ref k1, .ref k2, .int k3] (PG D cy [] L M sz)) (va_Qv (fun (M9 : Hp) => WOK cy K L M9 ∧ fr K L [7, 64, 68] M M9 ∧ (True)) (fun M9 t => PQ D [] L M9 (va_A ([] ++ va_pl L M) sz) t) (va_A ([] ++ va_pl L M) sz)) 0 0 (va_A ([] ++ va_pl L M) sz) := by
  refine Met.ofW (cc := cX0_weigh) (maxL := 6) (ret := none) (by decide) rfl ?_
  intro p e s m args below meth c s₁ B hml hv
  obtain ⟨rfl, hsz, hP, hK, hD0, hN⟩ := hv
  have hx := B.exec
  have hb := B.bytes
  have hr := B.returns
  have hts := atoms_spec (ws := (wsM yX0_weigh cX0_weigh 6 none)) B.pre
  have hg : ∀ w ∈ lw_good, w.before _ s = true := fun w h => hts w (List.mem_cons_of_mem _ h)
  have hown : s.vm.findClass RX0 = some m.cls := findClass_of_methodNamed B.named
  have hlocks := B.notSynchronized
  subst hsz
  have hD := hD0.self (sz := s.heap.size)
  generalize hAe : va_A ([] ++ va_pl L M) s.heap.size = A at hD ⊢
  have hA : ∀ q : Nat, s.heap.size ≤ q → A q := fun q h => by rw [← hAe]; exact Or.inr h
  have hS : va_S A s.heap s.heap [] := va_S.rf
  have hl := lv_entry ([.ref oa, .ref k1, .ref k2, .int k3]) (n := 6) (Nat.le_of_ble_eq_true rfl)
  rw [lg_entry_eq]
  generalize (lg_sl ([.ref oa, .ref k1, .ref k2, .int k3]) ++ List.replicate (6 - (lg_sl ([.ref oa, .ref k1, .ref k2, .int k3])).length) Slot.unset).toArray = ls at hl ⊢
  refine W.nameQ (fun Q hQ => ?_)
  refine W.nameR (fun R hR => ?_)
  have hRf : 2 ≤ R.frames := by rw [hR]; exact Nat.le_of_ble_eq_true rfl
  have hRl : 43 ≤ R.locals := by rw [hR]; exact Nat.le_of_ble_eq_true rfl
  have hRc : 0 ≤ R.cells := by rw [hR]; exact Nat.le_of_ble_eq_true rfl
  have hRs : 0 ≤ R.slots := by rw [hR]; exact Nat.le_of_ble_eq_true rfl
  have hF : fr K L [7, 64, 68] M M := fr.rf
  have hl : lv_has ls 6 [(0, .ref oa), (1, .ref k1), (2, .ref k2), (3, .int k3)] := hl
  refine lv_aload_n hx hb dX0_weigh_0 rfl (lv_at hl 0 rfl) ?_
  obtain ⟨v1_0, v1_1, v1_2, v1_3, v1_4, hM1, h1_0, h1_1, h1_2, h1_3⟩ := hW.open_0 ia
  refine pg_get (D := D) (ci := 0) (v := .ref v1_2) (C := RX0) (T := TX0) (N := 5) hx hb hg inG0 hown hK hP ia.1 hM1 rfl 2 (by decide) (hg _ wd_207) (fun _ h9 => h9) rfl dX0_weigh_1 ?_
  obtain ⟨v2_0, v2_1, v2_2, v2_3, v2_4, v2_5, hM2, h2_0, h2_1, h2_2, h2_3, h2_4, h2_5⟩ := hW.open_7 h1_2
  have hPc : va_P D vwCl ([] ++ va_pl L M) s.heap := hP
  have hDc : va_D A ([] ++ va_pl L M) := hD
  have hFc : ∀ q, va_A ([] ++ va_pl L M) s.heap.size q → A q := pg_free hDc hS hA
  refine va_callv (va_runV (As := []) (rest := []) ⟨hx, hb, hml, hown, hg⟩ (s_X7_start l D cy K L M s.heap.size v1_2  hW h1_2) (cwV 0 hg (gV wd_208 wd_209 wd_210 wd_148 wd_211) rfl rfl rfl (by decide +kernel) ⟨(Nat.le_trans (Nat.le_of_ble_eq_true rfl) hRf), (Nat.le_trans (Nat.le_of_ble_eq_true rfl) hRl)⟩) ⟨PG.blind, pg_recv hK hP h1_2.1 hM2 rfl, fun U hU hW => ⟨rfl, PG.at hPc hK hDc hN hU hW⟩⟩ rfl rfl hl.1 rfl (lv_room (Nat.le_of_ble_eq_true rfl)) dX0_weigh_4 ⟨(Nat.le_trans (Nat.le_of_ble_eq_true rfl) hRc), (Nat.le_trans (Nat.le_of_ble_eq_true rfl) hRs)⟩) hS (fun q _ h => hFc q h) hFc (fun M_5 t H_3 locs ht hvm hw hB hz1 hk1 hS => ?_)
  obtain ⟨hW, hF2, hp_6⟩ := hw
  obtain ⟨hP1, hD1⟩ := hB
  rw [ht] at hP1
  have hP : va_P D vwCl ([] ++ va_pl L M_5) H_3 := hP1
  have hD : va_D A ([] ++ va_pl L M_5) := hD1.mono hFc
  have hM_7 : M_5 oa = (b0_7 v1_0 v1_1 v1_2 (nI v1_3) v1_4) := (hF2.at ia (by decide)).trans hM1
  have hF : fr K L [7, 64, 68] M M_5 := hF.tr hF2 (by decide)
  refine lv_iconst (v := 0) hx hb dX0_weigh_7 (by decide) ?_
  refine lv_istore (lv' := [(4, .int 0), (0, .ref oa), (1, .ref k1), (2, .ref k2), (3, .int k3)]) hx hb dX0_weigh_8 hl (by decide) rfl (fun ls hl => ?_)
  have key_8 : ∀ (fu_10 : Nat) (v4w11 : Nat) (M_13 : Hp) (H_14 : Heap) (locs : List Loc) (ls : Array Slot), 6 - v4w11 < fu_10 → v4w11 ≤ 6 → WOK cy K L M_13 → fr K L [7, 64, 68] M M_13 → va_P D vwCl ([] ++ va_pl L M_13) H_14 → va_D A ([] ++ va_pl L M_13) → va_S A s.heap H_14 locs → lv_has ls 6 [(4, .int (nI v4w11)), (0, .ref oa), (1, .ref k1), (2, .ref k2), (3, .int k3)] → W p l e R s m ([.ref oa, .ref k1, .ref k2, .int k3] : List Value).toArray below meth c H_14 locs 0 0 Q (F0 m 10 ls []) := by
    intro fu_10
    induction fu_10 with
    | zero => intro v4w11 M_13 H_14 locs ls h; exact absurd h (Nat.not_lt_zero _)
    | succ fu_10 ih_9 =>
      intro v4w11 M_13 H_14 locs ls hfu hx_12 hW hF hP hD hS hl
      refine lv_iload hx hb dX0_weigh_10 (lv_at hl 0 rfl) ?_
      refine lv_bipush (v := 6) hx hb dX0_weigh_12 (by decide) ?_
      refine lv_icmp_ge (tgt := 58) hx hb dX0_weigh_14 (by decide) (fun c_15 => ?_) (fun c_15 => ?_)
      · have hz := rfl (a := 0)
        have n_16 : 6 ≤ v4w11 := (iLE (a := 6) (b := v4w11) (by omega) (by omega)).mp c_15
        rw [hQ]
        exact W.vret hx hb hr (fun t ht hW9 => ⟨⟨M_13, rfl, ⟨hW, hF, trivial⟩, ⟨by rw [ht]; exact hP, hD⟩⟩, hS.F ht⟩) hS.2.2 dX0_weigh_58
      · have hz := rfl (a := 0)
        have n_17 : ¬ (6 ≤ v4w11) := fun q => c_15 ((iLE (a := 6) (b := v4w11) (by omega) (by omega)).mpr q)
        refine lv_aload_n hx hb dX0_weigh_17 rfl (lv_at hl 2 rfl) ?_
        obtain ⟨v18_0, v18_1, v18_2, v18_3, v18_4, v18_5, hM18, h18_0, h18_1⟩ := hW.open_8 ik1
        refine pg_get (D := D) (ci := 8) (v := .ref v18_0) (C := RX8) (T := TX8) (N := 6) hx hb hg inG8 hown hK hP ik1.1 hM18 rfl 0 (by decide) (hg _ wd_212) (fun _ h9 => h9) rfl dX0_weigh_18 ?_
        refine lv_iload hx hb dX0_weigh_21 (lv_at hl 0 rfl) ?_
        obtain ⟨f19, hM19, hf19⟩ := hW.open_65 h18_0
        have hi_20 : vp_in (nI v4w11) 6 := (inbN v4w11 6 (by omega) (by omega))
        refine pg_aldq hx hb hK hP h18_0.1 8 hM19 rfl hi_20 dX0_weigh_23 ?_
        obtain ⟨q_21, ho_22⟩ : ∃ q : Option Nat, q = f19 ((nI v4w11) : Int32).toNatClampNeg := ⟨_, rfl⟩
        rw [← ho_22]
        have hq_23 : iskN K L q_21 9 0 := by rw [ho_22]; exact hf19 _ (vp_lt hi_20)
        rcases q_21 with _ | bq_21
        · have hz := rfl (a := 0)
          refine lv_astoreN (lv' := [(5, .null), (4, .int (nI v4w11)), (0, .ref oa), (1, .ref k1), (2, .ref k2), (3, .int k3)]) hx hb dX0_weigh_24 hl (by decide) rfl (fun ls hl => ?_)
          refine lv_aload_n hx hb dX0_weigh_26 rfl (lv_at hl 2 rfl) ?_
          obtain ⟨v25_0, v25_1, v25_2, v25_3, v25_4, hM25, h25_0, h25_1, h25_2, h25_3⟩ := hW.open_0 ia
          refine pg_get (D := D) (ci := 0) (v := .ref v25_2) (C := RX0) (T := TX0) (N := 5) hx hb hg inG0 hown hK hP ia.1 hM25 rfl 2 (by decide) (hg _ wd_207) (fun _ h9 => h9) rfl dX0_weigh_27 ?_
          refine lv_aloadN hx hb dX0_weigh_30 (lv_at hl 0 rfl) ?_
          refine lv_aloadN hx hb dX0_weigh_32 (lv_at hl 0 rfl) ?_
          refine lv_ifnonnullN hx hb dX0_weigh_34 ?_
          refine lv_lconst (v := 0) hx hb dX0_weigh_37 (by decide) ?_
          refine lv_goto (tgt := 49) hx hb dX0_weigh_38 (by decide) ?_
          obtain ⟨v26_0, v26_1, v26_2, v26_3, v26_4, v26_5, hM26, h26_0, h26_1, h26_2, h26_3, h26_4, h26_5⟩ := hW.open_7 h25_2
          have hPc : va_P D vwCl ([] ++ va_pl L M_13) H_14 := hP
          have hDc : va_D A ([] ++ va_pl L M_13) := hD
          have hFc : ∀ q, va_A ([] ++ va_pl L M_13) H_14.size q → A q := pg_free hDc hS hA
          refine va_callv (va_runV (As := [.null, .long 0]) (rest := []) ⟨hx, hb, hml, hown, hg⟩ (s_X7_add_n l D cy K L M_13 H_14.size v25_2 0  hW h25_2) (cwV 2 hg (gV wd_213 wd_214 wd_215 wd_148 wd_216) rfl rfl rfl (by decide +kernel) ⟨(Nat.le_trans (Nat.le_of_ble_eq_true rfl) hRf), (Nat.le_trans (Nat.le_of_ble_eq_true rfl) hRl)⟩) ⟨PG.blind, pg_recv hK hP h25_2.1 hM26 rfl, fun U hU hW => ⟨rfl, PG.at hPc hK hDc hN hU hW⟩⟩ rfl rfl hl.1 rfl (lv_room (Nat.le_of_ble_eq_true rfl)) dX0_weigh_49 ⟨(Nat.le_trans (Nat.le_of_ble_eq_true rfl) hRc), (Nat.le_trans (Nat.le_of_ble_eq_true rfl) hRs)⟩) hS (fun q _ h => hFc q h) hFc (fun M_29 t H_27 locs ht hvm hw hB hz1 hk1 hS => ?_)
          obtain ⟨hW, hF2, hp_30⟩ := hw
          obtain ⟨hP1, hD1⟩ := hB
          rw [ht] at hP1
          have hP : va_P D vwCl ([] ++ va_pl L M_29) H_27 := hP1
          have hD : va_D A ([] ++ va_pl L M_29) := hD1.mono hFc
          have hM_31 : M_29 k1 = (b8_11 v18_0 v18_1 v18_2 v18_3 v18_4 v18_5) := (hF2.at ik1 (by decide)).trans hM18
          have hM_32 : M_29 v18_0 = .inl (cy 22, 6, .inr (.inr (.inr (.inr (f19))))) := (hF2.at h18_0 (by decide)).trans hM19
          have hM_33 : M_29 oa = (b0_7 v25_0 v25_1 v25_2 (nI v25_3) v25_4) := (hF2.at ia (by decide)).trans hM25
          have hF : fr K L [7, 64, 68] M M_29 := hF.tr hF2 (by decide)
          refine lv_iinc (v := (nI (v4w11 + 1))) (lv' := [(4, .int (nI (v4w11 + 1))), (5, .null), (0, .ref oa), (1, .ref k1), (2, .ref k2), (3, .int k3)]) hx hb dX0_weigh_52 hl (k := 1) rfl (nI_1 v4w11) (by decide) rfl (fun ls hl => ?_)
          refine lv_goto (tgt := 10) hx hb dX0_weigh_55 (by decide) ?_
          exact ih_9 (v4w11 + 1) M_29 H_27 _ _ (by omega) (by omega) hW hF hP hD hS (lv_sub hl [0, 2, 3, 4, 5] rfl)
        · have hb_24 := hq_23 bq_21 rfl
          refine lv_astore (lv' := [(5, .ref bq_21), (4, .int (nI v4w11)), (0, .ref oa), (1, .ref k1), (2, .ref k2), (3, .int k3)]) hx hb dX0_weigh_24 hl (by decide) rfl (fun ls hl => ?_)
          refine lv_aload_n hx hb dX0_weigh_26 rfl (lv_at hl 2 rfl) ?_
          obtain ⟨v34_0, v34_1, v34_2, v34_3, v34_4, hM34, h34_0, h34_1, h34_2, h34_3⟩ := hW.open_0 ia
          refine pg_get (D := D) (ci := 0) (v := .ref v34_2) (C := RX0) (T := TX0) (N := 5) hx hb hg inG0 hown hK hP ia.1 hM34 rfl 2 (by decide) (hg _ wd_207) (fun _ h9 => h9) rfl dX0_weigh_27 ?_
          refine lv_aload hx hb dX0_weigh_30 (lv_at hl 0 rfl) ?_
          refine lv_aload hx hb dX0_weigh_32 (lv_at hl 0 rfl) ?_
          refine lv_ifnonnull (tgt := 41) hx hb dX0_weigh_34 (by decide) ?_
          refine lv_aload_n hx hb dX0_weigh_41 rfl (lv_at hl 4 rfl) ?_
          refine lv_iload hx hb dX0_weigh_42 (lv_at hl 1 rfl) ?_
          refine lv_iload_n hx hb dX0_weigh_44 rfl (lv_at hl 5 rfl) ?_
          obtain ⟨v35_0, v35_1, v35_2, hM35, h35_2⟩ := hW.open_6 ik2
          have hPc : va_P D vwCl ([] ++ va_pl L M_13) H_14 := hP
          have hDc : va_D A ([] ++ va_pl L M_13) := hD
          have hFc : ∀ q, va_A ([] ++ va_pl L M_13) H_14.size q → A q := pg_free hDc hS hA
          refine va_calli (va_runV (As := [.int (nI v4w11), .int k3]) (rest := [.ref bq_21, .ref v34_2]) ⟨hx, hb, hml, hown, hg⟩ (s_X6_termOf l D cy K L M_13 H_14.size k2 (nI v4w11) k3  hW ik2) (cwV 2 hg (gV wd_217 wd_136 wd_137 wd_97 wd_138) rfl rfl rfl (by decide +kernel) ⟨(Nat.le_trans (Nat.le_of_ble_eq_true rfl) hRf), (Nat.le_trans (Nat.le_of_ble_eq_true rfl) hRl)⟩) ⟨PG.blind, pg_recv hK hP ik2.1 hM35 rfl, fun U hU hW => ⟨rfl, PG.at hPc hK hDc hN hU hW⟩⟩ rfl rfl hl.1 rfl (lv_room (Nat.le_of_ble_eq_true rfl)) dX0_weigh_45 ⟨(Nat.le_trans (Nat.le_of_ble_eq_true rfl) hRc), (Nat.le_trans (Nat.le_of_ble_eq_true rfl) hRs)⟩) hS (fun q _ h => hFc q h) hFc (fun r_37 M_38 t H_36 locs ht hvm hw hB hz1 hk1 hS => ?_)
          have hp_39 := hw
          obtain ⟨hP1, hD1⟩ := hB
          rw [ht] at hP1
          have hP : va_P D vwCl ([] ++ va_pl L M_13) H_36 := hP1
          have hD : va_D A ([] ++ va_pl L M_13) := hD1.mono hFc
          refine lv_i2l hx hb dX0_weigh_48 rfl ?_
          refine lv_topl (fun f_40 ef_40 => ?_)
          obtain ⟨v41_0, v41_1, v41_2, v41_3, v41_4, v41_5, hM41, h41_0, h41_1, h41_2, h41_3, h41_4, h41_5⟩ := hW.open_7 h34_2
          have hPc : va_P D vwCl ([] ++ va_pl L M_13) H_36 := hP
          have hDc : va_D A ([] ++ va_pl L M_13) := hD
          have hFc : ∀ q, va_A ([] ++ va_pl L M_13) H_36.size q → A q := pg_free hDc hS hA
          refine va_callv (va_runV (As := [.ref bq_21, .long f_40]) (rest := []) ⟨hx, hb, hml, hown, hg⟩ (s_X7_add_s l D cy K L M_13 H_36.size v34_2 bq_21 f_40  hW h34_2 hb_24) (cwV 2 hg (gV wd_213 wd_214 wd_215 wd_148 wd_216) rfl rfl rfl (by decide +kernel) ⟨(Nat.le_trans (Nat.le_of_ble_eq_true rfl) hRf), (Nat.le_trans (Nat.le_of_ble_eq_true rfl) hRl)⟩) ⟨PG.blind, pg_recv hK hP h34_2.1 hM41 rfl, fun U hU hW => ⟨rfl, PG.at hPc hK hDc hN hU hW⟩⟩ rfl rfl hl.1 rfl (lv_room (Nat.le_of_ble_eq_true rfl)) dX0_weigh_49 ⟨(Nat.le_trans (Nat.le_of_ble_eq_true rfl) hRc), (Nat.le_trans (Nat.le_of_ble_eq_true rfl) hRs)⟩) hS (fun q _ h => hFc q h) hFc (fun M_44 t H_42 locs ht hvm hw hB hz1 hk1 hS => ?_)
          obtain ⟨hW, hF2, hp_45⟩ := hw
          obtain ⟨hP1, hD1⟩ := hB
          rw [ht] at hP1
          have hP : va_P D vwCl ([] ++ va_pl L M_44) H_42 := hP1
          have hD : va_D A ([] ++ va_pl L M_44) := hD1.mono hFc
          have hM_46 : M_44 k1 = (b8_11 v18_0 v18_1 v18_2 v18_3 v18_4 v18_5) := (hF2.at ik1 (by decide)).trans hM18
          have hM_47 : M_44 v18_0 = .inl (cy 22, 6, .inr (.inr (.inr (.inr (f19))))) := (hF2.at h18_0 (by decide)).trans hM19
          have hM_48 : M_44 oa = (b0_7 v34_0 v34_1 v34_2 (nI v34_3) v34_4) := (hF2.at ia (by decide)).trans hM34
          have hM_49 : M_44 k2 = (b6_13 v35_0 v35_1 v35_2) := (hF2.at ik2 (by decide)).trans hM35
          have hF : fr K L [7, 64, 68] M M_44 := hF.tr hF2 (by decide)
          refine lv_iinc (v := (nI (v4w11 + 1))) (lv' := [(4, .int (nI (v4w11 + 1))), (5, .ref bq_21), (0, .ref oa), (1, .ref k1), (2, .ref k2), (3, .int k3)]) hx hb dX0_weigh_52 hl (k := 1) rfl (nI_1 v4w11) (by decide) rfl (fun ls hl => ?_)
          refine lv_goto (tgt := 10) hx hb dX0_weigh_55 (by decide) ?_
          exact ih_9 (v4w11 + 1) M_44 H_42 _ _ (by omega) (by omega) hW hF hP hD hS (lv_sub hl [0, 2, 3, 4, 5] rfl)
  exact key_8 (6 - 0 + 1) 0 M_5 H_3 _ _ (by omega) (by omega) hW hF hP hD hS (lv_sub hl [0, 1, 2, 3, 4] rfl)
set_option maxHeartbeats 4000000 in
set_option maxRecDepth 100000 in
theorem s_X0_giveWages (l : Launch) (D : va_G) (cy : Nat → ClassId) (K : Kp) (L : List Nat) (M : Hp) (sz : Nat) (oa : Nat) (k1 : Nat) (k2 : Nat) (hW : WOK cy K L M) (ia : isk K L oa 0 0) (ik1 : isk K L k1 8 0) (ik2 : isk K L k2 6 0) : Met l yX0_giveWages (wsM yX0_giveWages cX0_giveWages 9 (some .long)) ({ frames := 2, cells := 0, slots := 0, locals := 43 }) (va_Pc [.ref oa, .ref k1, .ref k2] (PG D cy [] L M sz)) (va_Ql (fun (r : Int64) (M9 : Hp) => WOK cy K L M9 ∧ fr K L [72] M M9 ∧ (True)) (fun M9 t => PQ D [] L M9 (va_A ([] ++ va_pl L M) sz) t) (va_A ([] ++ va_pl L M) sz)) 0 0 (va_A ([] ++ va_pl L M) sz) := by
  refine Met.ofW (cc := cX0_giveWages) (maxL := 9) (ret := (some .long)) (by decide) rfl ?_
  intro p e s m args below meth c s₁ B hml hv
  obtain ⟨rfl, hsz, hP, hK, hD0, hN⟩ := hv
  have hx := B.exec
  have hb := B.bytes
  have hr := B.returns
  have hts := atoms_spec (ws := (wsM yX0_giveWages cX0_giveWages 9 (some .long))) B.pre
  have hg : ∀ w ∈ lw_good, w.before _ s = true := fun w h => hts w (List.mem_cons_of_mem _ h)
  have hown : s.vm.findClass RX0 = some m.cls := findClass_of_methodNamed B.named
  have hlocks := B.notSynchronized
  subst hsz
  have hD := hD0.self (sz := s.heap.size)
  generalize hAe : va_A ([] ++ va_pl L M) s.heap.size = A at hD ⊢
  have hA : ∀ q : Nat, s.heap.size ≤ q → A q := fun q h => by rw [← hAe]; exact Or.inr h
  have hS : va_S A s.heap s.heap [] := va_S.rf
  have hl := lv_entry ([.ref oa, .ref k1, .ref k2]) (n := 9) (Nat.le_of_ble_eq_true rfl)
  rw [lg_entry_eq]
  generalize (lg_sl ([.ref oa, .ref k1, .ref k2]) ++ List.replicate (9 - (lg_sl ([.ref oa, .ref k1, .ref k2])).length) Slot.unset).toArray = ls at hl ⊢
  refine W.nameQ (fun Q hQ => ?_)
  refine W.nameR (fun R hR => ?_)
  have hRf : 2 ≤ R.frames := by rw [hR]; exact Nat.le_of_ble_eq_true rfl
  have hRl : 43 ≤ R.locals := by rw [hR]; exact Nat.le_of_ble_eq_true rfl
  have hRc : 0 ≤ R.cells := by rw [hR]; exact Nat.le_of_ble_eq_true rfl
  have hRs : 0 ≤ R.slots := by rw [hR]; exact Nat.le_of_ble_eq_true rfl
  have hF : fr K L [72] M M := fr.rf
  have hl : lv_has ls 9 [(0, .ref oa), (1, .ref k1), (2, .ref k2)] := hl
  refine lv_lconst (v := 0) hx hb dX0_giveWages_0 (by decide) ?_
  refine lv_lstore_n (lv' := [(3, .long 0), (0, .ref oa), (1, .ref k1), (2, .ref k2)]) hx hb dX0_giveWages_1 rfl hl (by decide) rfl (fun ls hl => ?_)
  refine lv_iconst (v := 0) hx hb dX0_giveWages_2 (by decide) ?_
  refine lv_istore (lv' := [(5, .int 0), (3, .long 0), (0, .ref oa), (1, .ref k1), (2, .ref k2)]) hx hb dX0_giveWages_3 hl (by decide) rfl (fun ls hl => ?_)
  have key_1 : ∀ (fu_3 : Nat) (v5w4 : Nat) (v3w4 : Int64) (M_6 : Hp) (H_7 : Heap) (locs : List Loc) (ls : Array Slot), 6 - v5w4 < fu_3 → v5w4 ≤ 6 → WOK cy K L M_6 → fr K L [72] M M_6 → va_P D vwCl ([] ++ va_pl L M_6) H_7 → va_D A ([] ++ va_pl L M_6) → va_S A s.heap H_7 locs → lv_has ls 9 [(5, .int (nI v5w4)), (3, .long v3w4), (0, .ref oa), (1, .ref k1), (2, .ref k2)] → W p l e R s m ([.ref oa, .ref k1, .ref k2] : List Value).toArray below meth c H_7 locs 0 0 Q (F0 m 5 ls []) := by
    intro fu_3
    induction fu_3 with
    | zero => intro v5w4 v3w4 M_6 H_7 locs ls h; exact absurd h (Nat.not_lt_zero _)
    | succ fu_3 ih_2 =>
      intro v5w4 v3w4 M_6 H_7 locs ls hfu hx_5 hW hF hP hD hS hl
      refine lv_iload hx hb dX0_giveWages_5 (lv_at hl 0 rfl) ?_
      refine lv_bipush (v := 6) hx hb dX0_giveWages_7 (by decide) ?_
      refine lv_icmp_ge (tgt := 77) hx hb dX0_giveWages_9 (by decide) (fun c_8 => ?_) (fun c_8 => ?_)
      · have hz := rfl (a := 0)
        have n_9 : 6 ≤ v5w4 := (iLE (a := 6) (b := v5w4) (by omega) (by omega)).mp c_8
        refine lv_lload_n hx hb dX0_giveWages_77 rfl (lv_at hl 1 rfl) ?_
        rw [hQ]
        exact W.lret (v := v3w4) hx hb hr (fun t ht hW9 => ⟨⟨v3w4, M_6, rfl, ⟨hW, hF, trivial⟩, ⟨by rw [ht]; exact hP, hD⟩⟩, hS.F ht⟩) hS.2.2 dX0_giveWages_78
      · have hz := rfl (a := 0)
        have n_10 : ¬ (6 ≤ v5w4) := fun q => c_8 ((iLE (a := 6) (b := v5w4) (by omega) (by omega)).mpr q)
        refine lv_aload_n hx hb dX0_giveWages_12 rfl (lv_at hl 3 rfl) ?_
        obtain ⟨v11_0, v11_1, v11_2, v11_3, v11_4, v11_5, hM11, h11_0, h11_1⟩ := hW.open_8 ik1
        refine pg_get (D := D) (ci := 8) (v := .ref v11_0) (C := RX8) (T := TX8) (N := 6) hx hb hg inG8 hown hK hP ik1.1 hM11 rfl 0 (by decide) (hg _ wd_212) (fun _ h9 => h9) rfl dX0_giveWages_13 ?_
        refine lv_iload hx hb dX0_giveWages_16 (lv_at hl 0 rfl) ?_
        obtain ⟨f12, hM12, hf12⟩ := hW.open_65 h11_0
        have hi_13 : vp_in (nI v5w4) 6 := (inbN v5w4 6 (by omega) (by omega))
        refine pg_aldq hx hb hK hP h11_0.1 8 hM12 rfl hi_13 dX0_giveWages_18 ?_
        obtain ⟨q_14, ho_15⟩ : ∃ q : Option Nat, q = f12 ((nI v5w4) : Int32).toNatClampNeg := ⟨_, rfl⟩
        rw [← ho_15]
        have hq_16 : iskN K L q_14 9 0 := by rw [ho_15]; exact hf12 _ (vp_lt hi_13)
        rcases q_14 with _ | bq_14
        · have hz := rfl (a := 0)
          refine lv_astoreN (lv' := [(6, .null), (5, .int (nI v5w4)), (3, .long v3w4), (0, .ref oa), (1, .ref k1), (2, .ref k2)]) hx hb dX0_giveWages_19 hl (by decide) rfl (fun ls hl => ?_)
          refine lv_aloadN hx hb dX0_giveWages_21 (lv_at hl 0 rfl) ?_
          refine lv_ifnullN (tgt := 71) hx hb dX0_giveWages_23 (by decide) ?_
          refine lv_iinc (v := (nI (v5w4 + 1))) (lv' := [(5, .int (nI (v5w4 + 1))), (6, .null), (3, .long v3w4), (0, .ref oa), (1, .ref k1), (2, .ref k2)]) hx hb dX0_giveWages_71 hl (k := 1) rfl (nI_1 v5w4) (by decide) rfl (fun ls hl => ?_)
          refine lv_goto (tgt := 5) hx hb dX0_giveWages_74 (by decide) ?_
          exact ih_2 (v5w4 + 1) v3w4 M_6 H_7 _ _ (by omega) (by omega) hW hF hP hD hS (lv_sub hl [0, 2, 3, 4, 5] rfl)
        · have hb_17 := hq_16 bq_14 rfl
          refine lv_astore (lv' := [(6, .ref bq_14), (5, .int (nI v5w4)), (3, .long v3w4), (0, .ref oa), (1, .ref k1), (2, .ref k2)]) hx hb dX0_giveWages_19 hl (by decide) rfl (fun ls hl => ?_)
          refine lv_aload hx hb dX0_giveWages_21 (lv_at hl 0 rfl) ?_
          refine lv_ifnull hx hb dX0_giveWages_23 ?_
          refine lv_aload hx hb dX0_giveWages_26 (lv_at hl 0 rfl) ?_
          obtain ⟨v18_0, v18_1, v18_2, v18_3, v18_4, v18_5, v18_6, v18_7, v18_8, v18_9, v18_10, v18_11, v18_12, v18_13, v18_14, v18_15, hM18, h18_0, h18_1, h18_4, h18_8⟩ := hW.open_9 hb_17
          refine pg_get (D := D) (ci := 9) (v := .ref v18_1) (C := RX9) (T := TX9) (N := 16) hx hb hg inG9 hown hK hP hb_17.1 hM18 rfl 1 (by decide) (hg _ wd_218) (fun _ h9 => h9) rfl dX0_giveWages_28 ?_
          obtain ⟨v19_0, v19_1, v19_2, v19_3, hM19, h19_3⟩ := hW.open_4 h18_1
          refine pg_get (D := D) (ci := 4) (v := .int v19_1) (C := RX4) (T := TX4) (N := 4) hx hb hg inG4 hown hK hP h18_1.1 hM19 rfl 1 (by decide) (hg _ wd_219) (fun _ h9 => h9) rfl dX0_giveWages_31 ?_
          refine lv_iconst (v := 3) hx hb dX0_giveWages_34 (by decide) ?_
          refine lv_icmp_ne (tgt := 71) hx hb dX0_giveWages_35 (by decide) (fun c_20 => ?_) (fun c_20 => ?_)
          · have hz := rfl (a := 0)
            refine lv_iinc (v := (nI (v5w4 + 1))) (lv' := [(5, .int (nI (v5w4 + 1))), (6, .ref bq_14), (3, .long v3w4), (0, .ref oa), (1, .ref k1), (2, .ref k2)]) hx hb dX0_giveWages_71 hl (k := 1) rfl (nI_1 v5w4) (by decide) rfl (fun ls hl => ?_)
            refine lv_goto (tgt := 5) hx hb dX0_giveWages_74 (by decide) ?_
            exact ih_2 (v5w4 + 1) v3w4 M_6 H_7 _ _ (by omega) (by omega) hW hF hP hD hS (lv_sub hl [0, 2, 3, 4, 5] rfl)
          · have hz := rfl (a := 0)
            refine lv_aload_n hx hb dX0_giveWages_38 rfl (lv_at hl 5 rfl) ?_
            refine lv_iload hx hb dX0_giveWages_39 (lv_at hl 1 rfl) ?_
            refine lv_iconst (v := 0) hx hb dX0_giveWages_41 (by decide) ?_
            obtain ⟨v21_0, v21_1, v21_2, hM21, h21_2⟩ := hW.open_6 ik2
            have hPc : va_P D vwCl ([] ++ va_pl L M_6) H_7 := hP
            have hDc : va_D A ([] ++ va_pl L M_6) := hD
            have hFc : ∀ q, va_A ([] ++ va_pl L M_6) H_7.size q → A q := pg_free hDc hS hA
            refine va_calli (va_runV (As := [.int (nI v5w4), .int 0]) (rest := []) ⟨hx, hb, hml, hown, hg⟩ (s_X6_termOf l D cy K L M_6 H_7.size k2 (nI v5w4) 0  hW ik2) (cwV 2 hg (gV wd_217 wd_136 wd_137 wd_97 wd_138) rfl rfl rfl (by decide +kernel) ⟨(Nat.le_trans (Nat.le_of_ble_eq_true rfl) hRf), (Nat.le_trans (Nat.le_of_ble_eq_true rfl) hRl)⟩) ⟨PG.blind, pg_recv hK hP ik2.1 hM21 rfl, fun U hU hW => ⟨rfl, PG.at hPc hK hDc hN hU hW⟩⟩ rfl rfl hl.1 rfl (lv_room (Nat.le_of_ble_eq_true rfl)) dX0_giveWages_42 ⟨(Nat.le_trans (Nat.le_of_ble_eq_true rfl) hRc), (Nat.le_trans (Nat.le_of_ble_eq_true rfl) hRs)⟩) hS (fun q _ h => hFc q h) hFc (fun r_23 M_24 t H_22 locs ht hvm hw hB hz1 hk1 hS => ?_)
            have hp_25 := hw
            obtain ⟨hP1, hD1⟩ := hB
            rw [ht] at hP1
            have hP : va_P D vwCl ([] ++ va_pl L M_6) H_22 := hP1
            have hD : va_D A ([] ++ va_pl L M_6) := hD1.mono hFc
            refine lv_i2l hx hb dX0_giveWages_45 rfl ?_
            refine lv_topl (fun f_26 ef_26 => ?_)
            refine lv_aload_n hx hb dX0_giveWages_46 rfl (lv_at hl 4 rfl) ?_
            refine pg_get (D := D) (ci := 8) (v := .int v11_3) (C := RX8) (T := TX8) (N := 6) hx hb hg inG8 hown hK hP ik1.1 hM11 rfl 3 (by decide) (hg _ wd_220) (fun _ h9 => h9) rfl dX0_giveWages_47 ?_
            refine lv_i2l hx hb dX0_giveWages_50 rfl ?_
            refine lv_topl (fun f_27 ef_27 => ?_)
            refine lv_lmul hx hb dX0_giveWages_51 ?_
            refine lv_topl (fun f_28 ef_28 => ?_)
            refine lv_lstore (lv' := [(7, .long f_28), (6, .ref bq_14), (5, .int (nI v5w4)), (3, .long v3w4), (0, .ref oa), (1, .ref k1), (2, .ref k2)]) hx hb dX0_giveWages_52 hl (by decide) rfl (fun ls hl => ?_)
            refine lv_aload_n hx hb dX0_giveWages_54 rfl (lv_at hl 5 rfl) ?_
            refine pg_get (D := D) (ci := 8) (v := .ref v11_1) (C := RX8) (T := TX8) (N := 6) hx hb hg inG8 hown hK hP ik1.1 hM11 rfl 1 (by decide) (hg _ wd_221) (fun _ h9 => h9) rfl dX0_giveWages_55 ?_
            refine lv_iload hx hb dX0_giveWages_58 (lv_at hl 2 rfl) ?_
            refine lv_dup2_11 hx hb dX0_giveWages_60 rfl rfl ?_
            obtain ⟨f29, hM29⟩ := hW.open_72 h11_1
            refine pg_lald hx hb hK hP h11_1.1 1 hM29 rfl (inbN v5w4 6 (by omega) (by omega)) dX0_giveWages_61 ?_
            refine lv_topl (fun f_30 ef_30 => ?_)
            refine lv_lload hx hb dX0_giveWages_62 (lv_at hl 0 rfl) ?_
            refine lv_ladd hx hb dX0_giveWages_64 ?_
            refine lv_topl (fun f_31 ef_31 => ?_)
            refine pg_last hx hb hK hP hD hS h11_1.1 1 hM29 rfl (inbN v5w4 6 (by omega) (by omega)) dX0_giveWages_65 (fun H_32 locs hP hD hS => ?_)
            obtain ⟨M_33, eM_33⟩ : ∃ M1 : Hp, M1 = va_up M_6 v11_1 (.inl (cy 15, 6, .inr (.inl (vp_updL f29 ((nI v5w4) : Int32).toNatClampNeg f_31)))) := ⟨_, rfl⟩
            have hP : va_P D vwCl ([] ++ va_pl L M_33) H_32 := by rw [eM_33]; exact hP
            have hD : va_D A ([] ++ va_pl L M_33) := by rw [eM_33]; exact hD
            have hW : WOK cy K L M_33 := by rw [eM_33]; exact hW.up_72 h11_1 ⟨_, rfl⟩
            have hF : fr K L [72] M M_33 := by rw [eM_33]; exact hF.up h11_1 (by decide)
            have hM_34 : M_33 v11_1 = .inl (cy 15, 6, .inr (.inl (vp_updL f29 ((nI v5w4) : Int32).toNatClampNeg f_31))) := by rw [eM_33]; exact va_up_self _ _ _
            have hM_35 : M_33 k1 = (b8_11 v11_0 v11_1 v11_2 v11_3 v11_4 v11_5) := by rw [eM_33, va_up_ne _ _ (ik1.neT h11_1 (by decide))]; exact hM11
            have hM_36 : M_33 v11_0 = .inl (cy 22, 6, .inr (.inr (.inr (.inr (f12))))) := by rw [eM_33, va_up_ne _ _ (h11_0.neT h11_1 (by decide))]; exact hM12
            have hM_37 : M_33 bq_14 = (b9_9 (nI v18_0) v18_1 v18_2 v18_3 v18_4 v18_5 v18_6 v18_7 v18_8 v18_9 v18_10 v18_11 v18_12 v18_13 v18_14 v18_15) := by rw [eM_33, va_up_ne _ _ (hb_17.neT h11_1 (by decide))]; exact hM18
            have hM_38 : M_33 v18_1 = .inr (4, [.int v19_0, .int v19_1, .int v19_2, va_rf v19_3]) := by rw [eM_33, va_up_ne _ _ (h18_1.neT h11_1 (by decide))]; exact hM19
            have hM_39 : M_33 k2 = (b6_13 v21_0 v21_1 v21_2) := by rw [eM_33, va_up_ne _ _ (ik2.neT h11_1 (by decide))]; exact hM21
            obtain ⟨f_40, ef_40⟩ : ∃ f : Nat → Int64, f = vp_updL f29 ((nI v5w4) : Int32).toNatClampNeg f_31 := ⟨_, rfl⟩
            rw [← ef_40] at hM_34
            clear ef_40
            refine lv_lload_n hx hb dX0_giveWages_66 rfl (lv_at hl 3 rfl) ?_
            refine lv_lload hx hb dX0_giveWages_67 (lv_at hl 0 rfl) ?_
            refine lv_ladd hx hb dX0_giveWages_69 ?_
            refine lv_topl (fun f_41 ef_41 => ?_)
            refine lv_lstore_n (lv' := [(3, .long f_41), (7, .long f_28), (6, .ref bq_14), (5, .int (nI v5w4)), (0, .ref oa), (1, .ref k1), (2, .ref k2)]) hx hb dX0_giveWages_70 rfl hl (by decide) rfl (fun ls hl => ?_)
            refine lv_iinc (v := (nI (v5w4 + 1))) (lv' := [(5, .int (nI (v5w4 + 1))), (3, .long f_41), (7, .long f_28), (6, .ref bq_14), (0, .ref oa), (1, .ref k1), (2, .ref k2)]) hx hb dX0_giveWages_71 hl (k := 3) rfl (nI_1 v5w4) (by decide) rfl (fun ls hl => ?_)
            refine lv_goto (tgt := 5) hx hb dX0_giveWages_74 (by decide) ?_
            exact ih_2 (v5w4 + 1) f_41 M_33 H_32 _ _ (by omega) (by omega) hW hF hP hD hS (lv_sub hl [0, 1, 4, 5, 6] rfl)
  exact key_1 (6 - 0 + 1) 0 0 M s.heap _ _ (by omega) (by omega) hW hF hP hD hS (lv_sub hl [0, 1, 2, 3, 4] rfl)
set_option maxHeartbeats 4000000 in
set_option maxRecDepth 100000 in
theorem s_X0_creditDays (l : Launch) (D : va_G) (cy : Nat → ClassId) (K : Kp) (L : List Nat) (M : Hp) (sz : Nat) (oa : Nat) (k1 : Nat) (k2 : Nat) (k3 : Nat) (hW : WOK cy K L M) (ia : isk K L oa 0 0) (ik1 : isk K L k1 1 0) (ik2 : isk K L k2 8 0) (ik3 : isk K L k3 9 0) : Met l yX0_creditDays (wsM yX0_creditDays cX0_creditDays 9 (some .long)) ({ frames := 1, cells := 0, slots := 0, locals := 24 }) (va_Pc [.ref oa, .ref k1, .ref k2, .ref k3] (PG D cy [] L M sz)) (va_Ql (fun (r : Int64) (M9 : Hp) => WOK cy K L M9 ∧ fr K L [66] M M9 ∧ (True)) (fun M9 t => PQ D [] L M9 (va_A ([] ++ va_pl L M) sz) t) (va_A ([] ++ va_pl L M) sz)) 0 0 (va_A ([] ++ va_pl L M) sz) := by
  refine Met.ofW (cc := cX0_creditDays) (maxL := 9) (ret := (some .long)) (by decide) rfl ?_
  intro p e s m args below meth c s₁ B hml hv
  obtain ⟨rfl, hsz, hP, hK, hD0, hN⟩ := hv
  have hx := B.exec
  have hb := B.bytes
  have hr := B.returns
  have hts := atoms_spec (ws := (wsM yX0_creditDays cX0_creditDays 9 (some .long))) B.pre
  have hg : ∀ w ∈ lw_good, w.before _ s = true := fun w h => hts w (List.mem_cons_of_mem _ h)
  have hown : s.vm.findClass RX0 = some m.cls := findClass_of_methodNamed B.named
  have hlocks := B.notSynchronized
  subst hsz
  have hD := hD0.self (sz := s.heap.size)
  generalize hAe : va_A ([] ++ va_pl L M) s.heap.size = A at hD ⊢
  have hA : ∀ q : Nat, s.heap.size ≤ q → A q := fun q h => by rw [← hAe]; exact Or.inr h
  have hS : va_S A s.heap s.heap [] := va_S.rf
  have hl := lv_entry ([.ref oa, .ref k1, .ref k2, .ref k3]) (n := 9) (Nat.le_of_ble_eq_true rfl)
  rw [lg_entry_eq]
  generalize (lg_sl ([.ref oa, .ref k1, .ref k2, .ref k3]) ++ List.replicate (9 - (lg_sl ([.ref oa, .ref k1, .ref k2, .ref k3])).length) Slot.unset).toArray = ls at hl ⊢
  refine W.nameQ (fun Q hQ => ?_)
  refine W.nameR (fun R hR => ?_)
  have hRf : 1 ≤ R.frames := by rw [hR]; exact Nat.le_of_ble_eq_true rfl
  have hRl : 24 ≤ R.locals := by rw [hR]; exact Nat.le_of_ble_eq_true rfl
  have hRc : 0 ≤ R.cells := by rw [hR]; exact Nat.le_of_ble_eq_true rfl
  have hRs : 0 ≤ R.slots := by rw [hR]; exact Nat.le_of_ble_eq_true rfl
  have hF : fr K L [66] M M := fr.rf
  have hl : lv_has ls 9 [(0, .ref oa), (1, .ref k1), (2, .ref k2), (3, .ref k3)] := hl
  refine lv_aload_n hx hb dX0_creditDays_0 rfl (lv_at hl 3 rfl) ?_
  obtain ⟨v1_0, v1_1, v1_2, v1_3, v1_4, v1_5, v1_6, v1_7, v1_8, v1_9, v1_10, v1_11, v1_12, v1_13, v1_14, v1_15, hM1, h1_0, h1_1, h1_4, h1_8⟩ := hW.open_9 ik3
  refine pg_get (D := D) (ci := 9) (v := .long v1_9) (C := RX9) (T := TX9) (N := 16) hx hb hg inG9 hown hK hP ik3.1 hM1 rfl 9 (by decide) (hg _ wd_222) (fun _ h9 => h9) rfl dX0_creditDays_1 ?_
  refine lv_lstore (lv' := [(4, .long v1_9), (0, .ref oa), (1, .ref k1), (2, .ref k2), (3, .ref k3)]) hx hb dX0_creditDays_4 hl (by decide) rfl (fun ls hl => ?_)
  refine lv_aload_n hx hb dX0_creditDays_6 rfl (lv_at hl 1 rfl) ?_
  obtain ⟨v2_0, v2_1, v2_2, v2_3, v2_4, hM2, h2_0, h2_1, h2_2, h2_3⟩ := hW.open_0 ia
  refine pg_get (D := D) (ci := 0) (v := .ref v2_1) (C := RX0) (T := TX0) (N := 5) hx hb hg inG0 hown hK hP ia.1 hM2 rfl 1 (by decide) (hg _ wd_223) (fun _ h9 => h9) rfl dX0_creditDays_7 ?_
  refine lv_lconst (v := 0) hx hb dX0_creditDays_10 (by decide) ?_
  have hPc : va_P D vwCl ([] ++ va_pl L M) s.heap := hP
  have hDc : va_D A ([] ++ va_pl L M) := hD
  have hFc : ∀ q, va_A ([] ++ va_pl L M) s.heap.size q → A q := pg_free hDc hS hA
  refine va_callv (va_runS (As := [.ref v2_1, .long 0]) (rest := []) ⟨hx, hb, hml, hown, hg⟩ (s_J7_fill_d0a16_66 l D cy K L M s.heap.size v2_1 100 0  hW h2_1 (by omega)) (va_cwS 2 hg (gS wd_224 wd_158 wd_159 wd_160) rfl rfl rfl (by decide +kernel) ⟨(Nat.le_trans (Nat.le_of_ble_eq_true rfl) hRf), (Nat.le_trans (Nat.le_of_ble_eq_true rfl) hRl)⟩) ⟨PG.blind, fun U hU hW => ⟨rfl, PG.at hPc hK hDc hN hU hW⟩⟩ rfl rfl hl.1 rfl (lv_room (Nat.le_of_ble_eq_true rfl)) dX0_creditDays_11 ⟨(Nat.le_trans (Nat.le_of_ble_eq_true rfl) hRc), (Nat.le_trans (Nat.le_of_ble_eq_true rfl) hRs)⟩) hS (fun q _ h => hFc q h) hFc (fun M_5 t H_3 locs ht hvm hw hB hz1 hk1 hS => ?_)
  obtain ⟨hW, hF2, hp_6⟩ := hw
  obtain ⟨hP1, hD1⟩ := hB
  rw [ht] at hP1
  have hP : va_P D vwCl ([] ++ va_pl L M_5) H_3 := hP1
  have hD : va_D A ([] ++ va_pl L M_5) := hD1.mono hFc
  have hM_7 : M_5 k3 = (b9_9 (nI v1_0) v1_1 v1_2 v1_3 v1_4 v1_5 v1_6 v1_7 v1_8 v1_9 v1_10 v1_11 v1_12 v1_13 v1_14 v1_15) := (hF2.at ik3 (by decide)).trans hM1
  have hM_8 : M_5 oa = (b0_7 v2_0 v2_1 v2_2 (nI v2_3) v2_4) := (hF2.at ia (by decide)).trans hM2
  have hF : fr K L [66] M M_5 := hF.tr hF2 (by decide)
  refine lv_iconst (v := 0) hx hb dX0_creditDays_14 (by decide) ?_
  refine lv_istore (lv' := [(6, .int 0), (4, .long v1_9), (0, .ref oa), (1, .ref k1), (2, .ref k2), (3, .ref k3)]) hx hb dX0_creditDays_15 hl (by decide) rfl (fun ls hl => ?_)
  have key_9 : ∀ (fu_11 : Nat) (v6w12 : Nat) (v4w12 : Int64) (M_14 : Hp) (H_15 : Heap) (locs : List Loc) (ls : Array Slot), 120 - v6w12 < fu_11 → v6w12 ≤ 120 → WOK cy K L M_14 → fr K L [66] M M_14 → va_P D vwCl ([] ++ va_pl L M_14) H_15 → va_D A ([] ++ va_pl L M_14) → va_S A s.heap H_15 locs → lv_has ls 9 [(6, .int (nI v6w12)), (4, .long v4w12), (0, .ref oa), (1, .ref k1), (2, .ref k2), (3, .ref k3)] → W p l e R s m ([.ref oa, .ref k1, .ref k2, .ref k3] : List Value).toArray below meth c H_15 locs 0 0 Q (F0 m 17 ls []) := by
    intro fu_11
    induction fu_11 with
    | zero => intro v6w12 v4w12 M_14 H_15 locs ls h; exact absurd h (Nat.not_lt_zero _)
    | succ fu_11 ih_10 =>
      intro v6w12 v4w12 M_14 H_15 locs ls hfu hx_13 hW hF hP hD hS hl
      refine lv_iload hx hb dX0_creditDays_17 (lv_at hl 0 rfl) ?_
      refine lv_aload_n hx hb dX0_creditDays_19 rfl (lv_at hl 3 rfl) ?_
      obtain ⟨n16, v16_0, v16_1, v16_2, v16_3, hM16, h16_0, h16_1, h16_2, h16_3, y16_0⟩ := hW.open_1 ik1
      refine pg_get (D := D) (ci := 1) (v := .int (nI v16_3)) (C := RX1) (T := TX1) (N := 4) hx hb hg inG1 hown hK hP ik1.1 hM16 rfl 3 (by decide) (hg _ wd_225) (fun _ h9 => h9) rfl dX0_creditDays_20 ?_
      refine lv_icmp_ge (tgt := 109) hx hb dX0_creditDays_23 (by decide) (fun c_17 => ?_) (fun c_17 => ?_)
      · have hz := rfl (a := 0)
        have n_18 : v16_3 ≤ v6w12 := (iLE (a := v16_3) (b := v6w12) (by omega) (by omega)).mp c_17
        refine lv_lconst (v := 0) hx hb dX0_creditDays_109 (by decide) ?_
        refine lv_lstore (lv' := [(6, .long 0), (4, .long v4w12), (0, .ref oa), (1, .ref k1), (2, .ref k2), (3, .ref k3)]) hx hb dX0_creditDays_110 hl (by decide) rfl (fun ls hl => ?_)
        refine lv_iconst (v := 0) hx hb dX0_creditDays_112 (by decide) ?_
        refine lv_istore (lv' := [(8, .int 0), (6, .long 0), (4, .long v4w12), (0, .ref oa), (1, .ref k1), (2, .ref k2), (3, .ref k3)]) hx hb dX0_creditDays_113 hl (by decide) rfl (fun ls hl => ?_)
        have key_19 : ∀ (fu_21 : Nat) (v8w22 : Nat) (v4w22 : Int64) (v6w22 : Int64) (M_24 : Hp) (H_25 : Heap) (locs : List Loc) (ls : Array Slot), 100 - v8w22 < fu_21 → v8w22 ≤ 100 → WOK cy K L M_24 → fr K L [66] M M_24 → va_P D vwCl ([] ++ va_pl L M_24) H_25 → va_D A ([] ++ va_pl L M_24) → va_S A s.heap H_25 locs → lv_has ls 9 [(8, .int (nI v8w22)), (6, .long v6w22), (4, .long v4w22), (0, .ref oa), (1, .ref k1), (2, .ref k2), (3, .ref k3)] → W p l e R s m ([.ref oa, .ref k1, .ref k2, .ref k3] : List Value).toArray below meth c H_25 locs 0 0 Q (F0 m 115 ls []) := by
          intro fu_21
          induction fu_21 with
          | zero => intro v8w22 v4w22 v6w22 M_24 H_25 locs ls h; exact absurd h (Nat.not_lt_zero _)
          | succ fu_21 ih_20 =>
            intro v8w22 v4w22 v6w22 M_24 H_25 locs ls hfu hx_23 hW hF hP hD hS hl
            refine lv_iload hx hb dX0_creditDays_115 (lv_at hl 0 rfl) ?_
            refine lv_aload_n hx hb dX0_creditDays_117 rfl (lv_at hl 5 rfl) ?_
            obtain ⟨v26_0, v26_1, v26_2, v26_3, v26_4, v26_5, hM26, h26_0, h26_1⟩ := hW.open_8 ik2
            refine pg_get (D := D) (ci := 8) (v := .int v26_3) (C := RX8) (T := TX8) (N := 6) hx hb hg inG8 hown hK hP ik2.1 hM26 rfl 3 (by decide) (hg _ wd_220) (fun _ h9 => h9) rfl dX0_creditDays_118 ?_
            refine lv_icmp_ge (tgt := 163) hx hb dX0_creditDays_121 (by decide) (fun c_27 => ?_) (fun c_27 => ?_)
            · have hz := rfl (a := 0)
              refine lv_lload hx hb dX0_creditDays_163 (lv_at hl 1 rfl) ?_
              rw [hQ]
              exact W.lret (v := v6w22) hx hb hr (fun t ht hW9 => ⟨⟨v6w22, M_24, rfl, ⟨hW, hF, trivial⟩, ⟨by rw [ht]; exact hP, hD⟩⟩, hS.F ht⟩) hS.2.2 dX0_creditDays_165
            · have hz := rfl (a := 0)
              refine lv_iload hx hb dX0_creditDays_124 (lv_at hl 0 rfl) ?_
              refine lv_aload_n hx hb dX0_creditDays_126 rfl (lv_at hl 3 rfl) ?_
              obtain ⟨v28_0, v28_1, v28_2, v28_3, v28_4, hM28, h28_0, h28_1, h28_2, h28_3⟩ := hW.open_0 ia
              refine pg_get (D := D) (ci := 0) (v := .ref v28_1) (C := RX0) (T := TX0) (N := 5) hx hb hg inG0 hown hK hP ia.1 hM28 rfl 1 (by decide) (hg _ wd_223) (fun _ h9 => h9) rfl dX0_creditDays_127 ?_
              obtain ⟨f29, hM29⟩ := hW.open_66 h28_1
              refine pg_alen (v := 100) hx hb hK hP h28_1.1 1 hM29 rfl (by rfl) dX0_creditDays_130 ?_
              refine lv_icmp_ge (tgt := 163) hx hb dX0_creditDays_131 (by decide) (fun c_30 => ?_) (fun c_30 => ?_)
              · have hz := rfl (a := 0)
                have n_31 : 100 ≤ v8w22 := (iLE (a := 100) (b := v8w22) (by omega) (by omega)).mp c_30
                refine lv_lload hx hb dX0_creditDays_163 (lv_at hl 1 rfl) ?_
                rw [hQ]
                exact W.lret (v := v6w22) hx hb hr (fun t ht hW9 => ⟨⟨v6w22, M_24, rfl, ⟨hW, hF, trivial⟩, ⟨by rw [ht]; exact hP, hD⟩⟩, hS.F ht⟩) hS.2.2 dX0_creditDays_165
              · have hz := rfl (a := 0)
                have n_32 : ¬ (100 ≤ v8w22) := fun q => c_30 ((iLE (a := 100) (b := v8w22) (by omega) (by omega)).mpr q)
                refine lv_lload hx hb dX0_creditDays_134 (lv_at hl 2 rfl) ?_
                refine lv_aload_n hx hb dX0_creditDays_136 rfl (lv_at hl 3 rfl) ?_
                refine pg_get (D := D) (ci := 0) (v := .ref v28_1) (C := RX0) (T := TX0) (N := 5) hx hb hg inG0 hown hK hP ia.1 hM28 rfl 1 (by decide) (hg _ wd_223) (fun _ h9 => h9) rfl dX0_creditDays_137 ?_
                refine lv_iload hx hb dX0_creditDays_140 (lv_at hl 0 rfl) ?_
                refine pg_lald hx hb hK hP h28_1.1 1 hM29 rfl (inbN v8w22 100 (by omega) (by omega)) dX0_creditDays_142 ?_
                refine lv_topl (fun f_33 ef_33 => ?_)
                refine lv_ladd hx hb dX0_creditDays_143 ?_
                refine lv_topl (fun f_34 ef_34 => ?_)
                refine lv_lstore (lv' := [(4, .long f_34), (8, .int (nI v8w22)), (6, .long v6w22), (0, .ref oa), (1, .ref k1), (2, .ref k2), (3, .ref k3)]) hx hb dX0_creditDays_144 hl (by decide) rfl (fun ls hl => ?_)
                refine lv_lload hx hb dX0_creditDays_146 (lv_at hl 2 rfl) ?_
                refine lv_lconst (v := 0) hx hb dX0_creditDays_148 (by decide) ?_
                refine lv_lload hx hb dX0_creditDays_149 (lv_at hl 0 rfl) ?_
                refine va_mmax_long hx hb (by rw [hml]; exact hl.1.symm) hown (hg _ wd_226) (hg _ wd_11) (hg _ wd_12) (hg _ wd_13) (Nat.le_trans (Nat.le_of_ble_eq_true rfl) hRf) (Nat.le_trans (Nat.le_of_ble_eq_true rfl) hRl) (Nat.le_trans (Nat.le_of_ble_eq_true rfl) hRc) (Nat.le_trans (Nat.le_of_ble_eq_true rfl) hRs) dX0_creditDays_151 ?_
                refine lv_topl (fun f_35 ef_35 => ?_)
                refine lv_ladd hx hb dX0_creditDays_154 ?_
                refine lv_topl (fun f_36 ef_36 => ?_)
                refine lv_lstore (lv' := [(6, .long f_36), (4, .long f_34), (8, .int (nI v8w22)), (0, .ref oa), (1, .ref k1), (2, .ref k2), (3, .ref k3)]) hx hb dX0_creditDays_155 hl (by decide) rfl (fun ls hl => ?_)
                refine lv_iinc (v := (nI (v8w22 + 1))) (lv' := [(8, .int (nI (v8w22 + 1))), (6, .long f_36), (4, .long f_34), (0, .ref oa), (1, .ref k1), (2, .ref k2), (3, .ref k3)]) hx hb dX0_creditDays_157 hl (k := 2) rfl (nI_1 v8w22) (by decide) rfl (fun ls hl => ?_)
                refine lv_goto (tgt := 115) hx hb dX0_creditDays_160 (by decide) ?_
                exact ih_20 (v8w22 + 1) f_34 f_36 M_24 H_25 _ _ (by omega) (by omega) hW hF hP hD hS (lv_sub hl [0, 1, 2, 3, 4, 5, 6] rfl)
        exact key_19 (100 - 0 + 1) 0 v4w12 0 M_14 H_15 _ _ (by omega) (by omega) hW hF hP hD hS (lv_sub hl [0, 1, 2, 3, 4, 5, 6] rfl)
      · have hz := rfl (a := 0)
        have n_37 : ¬ (v16_3 ≤ v6w12) := fun q => c_17 ((iLE (a := v16_3) (b := v6w12) (by omega) (by omega)).mpr q)
        refine lv_aload_n hx hb dX0_creditDays_26 rfl (lv_at hl 3 rfl) ?_
        refine pg_get (D := D) (ci := 1) (v := .ref v16_1) (C := RX1) (T := TX1) (N := 4) hx hb hg inG1 hown hK hP ik1.1 hM16 rfl 1 (by decide) (hg _ wd_227) (fun _ h9 => h9) rfl dX0_creditDays_27 ?_
        refine lv_iload hx hb dX0_creditDays_30 (lv_at hl 0 rfl) ?_
        obtain ⟨f38, hM38⟩ := hW.open_56 h16_1
        refine pg_iald hx hb hK hP h16_1.1 0 hM38 rfl (inbN v6w12 n16 (by omega) (by omega)) dX0_creditDays_32 ?_
        refine lv_topi (fun f_39 ef_39 => ?_)
        refine lv_aload_n hx hb dX0_creditDays_33 rfl (lv_at hl 4 rfl) ?_
        obtain ⟨v40_0, v40_1, v40_2, v40_3, v40_4, v40_5, hM40, h40_0, h40_1⟩ := hW.open_8 ik2
        refine pg_get (D := D) (ci := 8) (v := .int v40_2) (C := RX8) (T := TX8) (N := 6) hx hb hg inG8 hown hK hP ik2.1 hM40 rfl 2 (by decide) (hg _ wd_228) (fun _ h9 => h9) rfl dX0_creditDays_34 ?_
        refine lv_isub hx hb dX0_creditDays_37 ?_
        refine lv_topi (fun f_41 ef_41 => ?_)
        refine lv_istore (lv' := [(7, .int f_41), (6, .int (nI v6w12)), (4, .long v4w12), (0, .ref oa), (1, .ref k1), (2, .ref k2), (3, .ref k3)]) hx hb dX0_creditDays_38 hl (by decide) rfl (fun ls hl => ?_)
        refine lv_aload_n hx hb dX0_creditDays_40 rfl (lv_at hl 4 rfl) ?_
        refine pg_get (D := D) (ci := 1) (v := .ref v16_0) (C := RX1) (T := TX1) (N := 4) hx hb hg inG1 hown hK hP ik1.1 hM16 rfl 0 (by decide) (hg _ wd_229) (fun _ h9 => h9) rfl dX0_creditDays_41 ?_
        refine lv_iload hx hb dX0_creditDays_44 (lv_at hl 1 rfl) ?_
        obtain ⟨f42, hM42, hf42⟩ := hW.open_63 h16_0
        have hi_43 : vp_in (nI v6w12) n16 := (inbN v6w12 n16 (by omega) (by omega))
        refine pg_aldq hx hb hK hP h16_0.1 8 hM42 rfl hi_43 dX0_creditDays_46 ?_
        obtain ⟨q_44, ho_45⟩ : ∃ q : Option Nat, q = f42 ((nI v6w12) : Int32).toNatClampNeg := ⟨_, rfl⟩
        rw [← ho_45]
        have hq_46 : iskN K L q_44 9 0 := by rw [ho_45]; exact hf42 _ (vp_lt hi_43)
        rcases q_44 with _ | bq_44
        · have hz := rfl (a := 0)
          refine lv_aload_n hx hb dX0_creditDays_47 rfl (lv_at hl 6 rfl) ?_
          refine lv_acmp_ne (rx := none) (ry := (some k3)) (tgt := 103) hx hb dX0_creditDays_48 (by decide) (fun c_48 => ?_) (fun c_48 => ?_)
          · have hz := rfl (a := 0)
            refine lv_iinc (v := (nI (v6w12 + 1))) (lv' := [(6, .int (nI (v6w12 + 1))), (7, .int f_41), (4, .long v4w12), (0, .ref oa), (1, .ref k1), (2, .ref k2), (3, .ref k3)]) hx hb dX0_creditDays_103 hl (k := 1) rfl (nI_1 v6w12) (by decide) rfl (fun ls hl => ?_)
            refine lv_goto (tgt := 17) hx hb dX0_creditDays_106 (by decide) ?_
            exact ih_10 (v6w12 + 1) v4w12 M_14 H_15 _ _ (by omega) (by omega) hW hF hP hD hS (lv_sub hl [0, 2, 3, 4, 5, 6] rfl)
          · have hz := rfl (a := 0)
            refine lv_iload hx hb dX0_creditDays_51 (lv_at hl 0 rfl) ?_
            refine lv_aload_n hx hb dX0_creditDays_53 rfl (lv_at hl 3 rfl) ?_
            obtain ⟨v49_0, v49_1, v49_2, v49_3, v49_4, hM49, h49_0, h49_1, h49_2, h49_3⟩ := hW.open_0 ia
            refine pg_get (D := D) (ci := 0) (v := .ref v49_1) (C := RX0) (T := TX0) (N := 5) hx hb hg inG0 hown hK hP ia.1 hM49 rfl 1 (by decide) (hg _ wd_223) (fun _ h9 => h9) rfl dX0_creditDays_54 ?_
            obtain ⟨f50, hM50⟩ := hW.open_66 h49_1
            refine pg_alen (v := 100) hx hb hK hP h49_1.1 1 hM50 rfl (by rfl) dX0_creditDays_57 ?_
            refine lv_icmp_lt (tgt := 64) hx hb dX0_creditDays_58 (by decide) (fun c_51 => ?_) (fun c_51 => ?_)
            · have hz := rfl (a := 0)
              refine lv_iload hx hb dX0_creditDays_64 (lv_at hl 0 rfl) ?_
              refine lv_if_ge (tgt := 85) hx hb dX0_creditDays_66 (by decide) (fun c_52 => ?_) (fun c_52 => ?_)
              · have hz := rfl (a := 0)
                refine lv_aload_n hx hb dX0_creditDays_85 rfl (lv_at hl 3 rfl) ?_
                refine pg_get (D := D) (ci := 0) (v := .ref v49_1) (C := RX0) (T := TX0) (N := 5) hx hb hg inG0 hown hK hP ia.1 hM49 rfl 1 (by decide) (hg _ wd_223) (fun _ h9 => h9) rfl dX0_creditDays_86 ?_
                refine lv_iload hx hb dX0_creditDays_89 (lv_at hl 0 rfl) ?_
                refine lv_dup2_11 hx hb dX0_creditDays_91 rfl rfl ?_
                refine pg_lald hx hb hK hP h49_1.1 1 hM50 rfl (inbL f_41 100 (by omega) (Int32.not_lt.mpr c_52) c_51) dX0_creditDays_92 ?_
                refine lv_topl (fun f_53 ef_53 => ?_)
                refine lv_aload_n hx hb dX0_creditDays_93 rfl (lv_at hl 4 rfl) ?_
                refine pg_get (D := D) (ci := 1) (v := .ref v16_2) (C := RX1) (T := TX1) (N := 4) hx hb hg inG1 hown hK hP ik1.1 hM16 rfl 2 (by decide) (hg _ wd_230) (fun _ h9 => h9) rfl dX0_creditDays_94 ?_
                refine lv_iload hx hb dX0_creditDays_97 (lv_at hl 1 rfl) ?_
                obtain ⟨f54, hM54⟩ := hW.open_57 h16_2
                refine pg_iald hx hb hK hP h16_2.1 0 hM54 rfl (inbN v6w12 n16 (by omega) (by omega)) dX0_creditDays_99 ?_
                refine lv_topi (fun f_55 ef_55 => ?_)
                refine lv_i2l hx hb dX0_creditDays_100 rfl ?_
                refine lv_topl (fun f_56 ef_56 => ?_)
                refine lv_ladd hx hb dX0_creditDays_101 ?_
                refine lv_topl (fun f_57 ef_57 => ?_)
                refine pg_last hx hb hK hP hD hS h49_1.1 1 hM50 rfl (inbL f_41 100 (by omega) (Int32.not_lt.mpr c_52) c_51) dX0_creditDays_102 (fun H_58 locs hP hD hS => ?_)
                obtain ⟨M_59, eM_59⟩ : ∃ M1 : Hp, M1 = va_up M_14 v49_1 (.inl (cy 15, 100, .inr (.inl (vp_updL f50 (f_41 : Int32).toNatClampNeg f_57)))) := ⟨_, rfl⟩
                have hP : va_P D vwCl ([] ++ va_pl L M_59) H_58 := by rw [eM_59]; exact hP
                have hD : va_D A ([] ++ va_pl L M_59) := by rw [eM_59]; exact hD
                have hW : WOK cy K L M_59 := by rw [eM_59]; exact hW.up_66 h49_1 ⟨_, rfl⟩
                have hF : fr K L [66] M M_59 := by rw [eM_59]; exact hF.up h49_1 (by decide)
                have hM_60 : M_59 v49_1 = .inl (cy 15, 100, .inr (.inl (vp_updL f50 (f_41 : Int32).toNatClampNeg f_57))) := by rw [eM_59]; exact va_up_self _ _ _
                have hM_61 : M_59 k1 = (b1_4 v16_0 v16_1 v16_2 (nI v16_3)) := by rw [eM_59, va_up_ne _ _ (ik1.neT h49_1 (by decide))]; exact hM16
                have hM_62 : M_59 v16_1 = .inl (cy 14, n16, .inl (f38)) := by rw [eM_59, va_up_ne _ _ (h16_1.neT h49_1 (by decide))]; exact hM38
                have hM_63 : M_59 k2 = (b8_11 v40_0 v40_1 v40_2 v40_3 v40_4 v40_5) := by rw [eM_59, va_up_ne _ _ (ik2.neT h49_1 (by decide))]; exact hM40
                have hM_64 : M_59 v16_0 = .inl (cy 22, n16, .inr (.inr (.inr (.inr (f42))))) := by rw [eM_59, va_up_ne _ _ (h16_0.neT h49_1 (by decide))]; exact hM42
                have hM_65 : M_59 oa = (b0_7 v49_0 v49_1 v49_2 (nI v49_3) v49_4) := by rw [eM_59, va_up_ne _ _ (ia.neT h49_1 (by decide))]; exact hM49
                have hM_66 : M_59 v16_2 = .inl (cy 14, n16, .inl (f54)) := by rw [eM_59, va_up_ne _ _ (h16_2.neT h49_1 (by decide))]; exact hM54
                obtain ⟨f_67, ef_67⟩ : ∃ f : Nat → Int64, f = vp_updL f50 (f_41 : Int32).toNatClampNeg f_57 := ⟨_, rfl⟩
                rw [← ef_67] at hM_60
                clear ef_67
                refine lv_iinc (v := (nI (v6w12 + 1))) (lv' := [(6, .int (nI (v6w12 + 1))), (7, .int f_41), (4, .long v4w12), (0, .ref oa), (1, .ref k1), (2, .ref k2), (3, .ref k3)]) hx hb dX0_creditDays_103 hl (k := 1) rfl (nI_1 v6w12) (by decide) rfl (fun ls hl => ?_)
                refine lv_goto (tgt := 17) hx hb dX0_creditDays_106 (by decide) ?_
                exact ih_10 (v6w12 + 1) v4w12 M_59 H_58 _ _ (by omega) (by omega) hW hF hP hD hS (lv_sub hl [0, 2, 3, 4, 5, 6] rfl)
              · have hz := rfl (a := 0)
                refine lv_lload hx hb dX0_creditDays_69 (lv_at hl 2 rfl) ?_
                refine lv_aload_n hx hb dX0_creditDays_71 rfl (lv_at hl 4 rfl) ?_
                refine pg_get (D := D) (ci := 1) (v := .ref v16_2) (C := RX1) (T := TX1) (N := 4) hx hb hg inG1 hown hK hP ik1.1 hM16 rfl 2 (by decide) (hg _ wd_230) (fun _ h9 => h9) rfl dX0_creditDays_72 ?_
                refine lv_iload hx hb dX0_creditDays_75 (lv_at hl 1 rfl) ?_
                obtain ⟨f68, hM68⟩ := hW.open_57 h16_2
                refine pg_iald hx hb hK hP h16_2.1 0 hM68 rfl (inbN v6w12 n16 (by omega) (by omega)) dX0_creditDays_77 ?_
                refine lv_topi (fun f_69 ef_69 => ?_)
                refine lv_i2l hx hb dX0_creditDays_78 rfl ?_
                refine lv_topl (fun f_70 ef_70 => ?_)
                refine lv_ladd hx hb dX0_creditDays_79 ?_
                refine lv_topl (fun f_71 ef_71 => ?_)
                refine lv_lstore (lv' := [(4, .long f_71), (7, .int f_41), (6, .int (nI v6w12)), (0, .ref oa), (1, .ref k1), (2, .ref k2), (3, .ref k3)]) hx hb dX0_creditDays_80 hl (by decide) rfl (fun ls hl => ?_)
                refine lv_goto (tgt := 103) hx hb dX0_creditDays_82 (by decide) ?_
                refine lv_iinc (v := (nI (v6w12 + 1))) (lv' := [(6, .int (nI (v6w12 + 1))), (4, .long f_71), (7, .int f_41), (0, .ref oa), (1, .ref k1), (2, .ref k2), (3, .ref k3)]) hx hb dX0_creditDays_103 hl (k := 2) rfl (nI_1 v6w12) (by decide) rfl (fun ls hl => ?_)
                refine lv_goto (tgt := 17) hx hb dX0_creditDays_106 (by decide) ?_
                exact ih_10 (v6w12 + 1) f_71 M_14 H_15 _ _ (by omega) (by omega) hW hF hP hD hS (lv_sub hl [0, 1, 3, 4, 5, 6] rfl)
            · have hz := rfl (a := 0)
              refine lv_goto (tgt := 103) hx hb dX0_creditDays_61 (by decide) ?_
              refine lv_iinc (v := (nI (v6w12 + 1))) (lv' := [(6, .int (nI (v6w12 + 1))), (7, .int f_41), (4, .long v4w12), (0, .ref oa), (1, .ref k1), (2, .ref k2), (3, .ref k3)]) hx hb dX0_creditDays_103 hl (k := 1) rfl (nI_1 v6w12) (by decide) rfl (fun ls hl => ?_)
              refine lv_goto (tgt := 17) hx hb dX0_creditDays_106 (by decide) ?_
              exact ih_10 (v6w12 + 1) v4w12 M_14 H_15 _ _ (by omega) (by omega) hW hF hP hD hS (lv_sub hl [0, 2, 3, 4, 5, 6] rfl)
        · have hb_47 := hq_46 bq_44 rfl
          refine lv_aload_n hx hb dX0_creditDays_47 rfl (lv_at hl 6 rfl) ?_
          refine lv_acmp_ne (rx := (some bq_44)) (ry := (some k3)) (tgt := 103) hx hb dX0_creditDays_48 (by decide) (fun c_72 => ?_) (fun c_72 => ?_)
          · have hz := rfl (a := 0)
            refine lv_iinc (v := (nI (v6w12 + 1))) (lv' := [(6, .int (nI (v6w12 + 1))), (7, .int f_41), (4, .long v4w12), (0, .ref oa), (1, .ref k1), (2, .ref k2), (3, .ref k3)]) hx hb dX0_creditDays_103 hl (k := 1) rfl (nI_1 v6w12) (by decide) rfl (fun ls hl => ?_)
            refine lv_goto (tgt := 17) hx hb dX0_creditDays_106 (by decide) ?_
            exact ih_10 (v6w12 + 1) v4w12 M_14 H_15 _ _ (by omega) (by omega) hW hF hP hD hS (lv_sub hl [0, 2, 3, 4, 5, 6] rfl)
          · have hz := rfl (a := 0)
            refine lv_iload hx hb dX0_creditDays_51 (lv_at hl 0 rfl) ?_
            refine lv_aload_n hx hb dX0_creditDays_53 rfl (lv_at hl 3 rfl) ?_
            obtain ⟨v73_0, v73_1, v73_2, v73_3, v73_4, hM73, h73_0, h73_1, h73_2, h73_3⟩ := hW.open_0 ia
            refine pg_get (D := D) (ci := 0) (v := .ref v73_1) (C := RX0) (T := TX0) (N := 5) hx hb hg inG0 hown hK hP ia.1 hM73 rfl 1 (by decide) (hg _ wd_223) (fun _ h9 => h9) rfl dX0_creditDays_54 ?_
            obtain ⟨f74, hM74⟩ := hW.open_66 h73_1
            refine pg_alen (v := 100) hx hb hK hP h73_1.1 1 hM74 rfl (by rfl) dX0_creditDays_57 ?_
            refine lv_icmp_lt (tgt := 64) hx hb dX0_creditDays_58 (by decide) (fun c_75 => ?_) (fun c_75 => ?_)
            · have hz := rfl (a := 0)
              refine lv_iload hx hb dX0_creditDays_64 (lv_at hl 0 rfl) ?_
              refine lv_if_ge (tgt := 85) hx hb dX0_creditDays_66 (by decide) (fun c_76 => ?_) (fun c_76 => ?_)
              · have hz := rfl (a := 0)
                refine lv_aload_n hx hb dX0_creditDays_85 rfl (lv_at hl 3 rfl) ?_
                refine pg_get (D := D) (ci := 0) (v := .ref v73_1) (C := RX0) (T := TX0) (N := 5) hx hb hg inG0 hown hK hP ia.1 hM73 rfl 1 (by decide) (hg _ wd_223) (fun _ h9 => h9) rfl dX0_creditDays_86 ?_
                refine lv_iload hx hb dX0_creditDays_89 (lv_at hl 0 rfl) ?_
                refine lv_dup2_11 hx hb dX0_creditDays_91 rfl rfl ?_
                refine pg_lald hx hb hK hP h73_1.1 1 hM74 rfl (inbL f_41 100 (by omega) (Int32.not_lt.mpr c_76) c_75) dX0_creditDays_92 ?_
                refine lv_topl (fun f_77 ef_77 => ?_)
                refine lv_aload_n hx hb dX0_creditDays_93 rfl (lv_at hl 4 rfl) ?_
                refine pg_get (D := D) (ci := 1) (v := .ref v16_2) (C := RX1) (T := TX1) (N := 4) hx hb hg inG1 hown hK hP ik1.1 hM16 rfl 2 (by decide) (hg _ wd_230) (fun _ h9 => h9) rfl dX0_creditDays_94 ?_
                refine lv_iload hx hb dX0_creditDays_97 (lv_at hl 1 rfl) ?_
                obtain ⟨f78, hM78⟩ := hW.open_57 h16_2
                refine pg_iald hx hb hK hP h16_2.1 0 hM78 rfl (inbN v6w12 n16 (by omega) (by omega)) dX0_creditDays_99 ?_
                refine lv_topi (fun f_79 ef_79 => ?_)
                refine lv_i2l hx hb dX0_creditDays_100 rfl ?_
                refine lv_topl (fun f_80 ef_80 => ?_)
                refine lv_ladd hx hb dX0_creditDays_101 ?_
                refine lv_topl (fun f_81 ef_81 => ?_)
                refine pg_last hx hb hK hP hD hS h73_1.1 1 hM74 rfl (inbL f_41 100 (by omega) (Int32.not_lt.mpr c_76) c_75) dX0_creditDays_102 (fun H_82 locs hP hD hS => ?_)
                obtain ⟨M_83, eM_83⟩ : ∃ M1 : Hp, M1 = va_up M_14 v73_1 (.inl (cy 15, 100, .inr (.inl (vp_updL f74 (f_41 : Int32).toNatClampNeg f_81)))) := ⟨_, rfl⟩
                have hP : va_P D vwCl ([] ++ va_pl L M_83) H_82 := by rw [eM_83]; exact hP
                have hD : va_D A ([] ++ va_pl L M_83) := by rw [eM_83]; exact hD
                have hW : WOK cy K L M_83 := by rw [eM_83]; exact hW.up_66 h73_1 ⟨_, rfl⟩
                have hF : fr K L [66] M M_83 := by rw [eM_83]; exact hF.up h73_1 (by decide)
                have hM_84 : M_83 v73_1 = .inl (cy 15, 100, .inr (.inl (vp_updL f74 (f_41 : Int32).toNatClampNeg f_81))) := by rw [eM_83]; exact va_up_self _ _ _
                have hM_85 : M_83 k1 = (b1_4 v16_0 v16_1 v16_2 (nI v16_3)) := by rw [eM_83, va_up_ne _ _ (ik1.neT h73_1 (by decide))]; exact hM16
                have hM_86 : M_83 v16_1 = .inl (cy 14, n16, .inl (f38)) := by rw [eM_83, va_up_ne _ _ (h16_1.neT h73_1 (by decide))]; exact hM38
                have hM_87 : M_83 k2 = (b8_11 v40_0 v40_1 v40_2 v40_3 v40_4 v40_5) := by rw [eM_83, va_up_ne _ _ (ik2.neT h73_1 (by decide))]; exact hM40
                have hM_88 : M_83 v16_0 = .inl (cy 22, n16, .inr (.inr (.inr (.inr (f42))))) := by rw [eM_83, va_up_ne _ _ (h16_0.neT h73_1 (by decide))]; exact hM42
                have hM_89 : M_83 oa = (b0_7 v73_0 v73_1 v73_2 (nI v73_3) v73_4) := by rw [eM_83, va_up_ne _ _ (ia.neT h73_1 (by decide))]; exact hM73
                have hM_90 : M_83 v16_2 = .inl (cy 14, n16, .inl (f78)) := by rw [eM_83, va_up_ne _ _ (h16_2.neT h73_1 (by decide))]; exact hM78
                obtain ⟨f_91, ef_91⟩ : ∃ f : Nat → Int64, f = vp_updL f74 (f_41 : Int32).toNatClampNeg f_81 := ⟨_, rfl⟩
                rw [← ef_91] at hM_84
                clear ef_91
                refine lv_iinc (v := (nI (v6w12 + 1))) (lv' := [(6, .int (nI (v6w12 + 1))), (7, .int f_41), (4, .long v4w12), (0, .ref oa), (1, .ref k1), (2, .ref k2), (3, .ref k3)]) hx hb dX0_creditDays_103 hl (k := 1) rfl (nI_1 v6w12) (by decide) rfl (fun ls hl => ?_)
                refine lv_goto (tgt := 17) hx hb dX0_creditDays_106 (by decide) ?_
                exact ih_10 (v6w12 + 1) v4w12 M_83 H_82 _ _ (by omega) (by omega) hW hF hP hD hS (lv_sub hl [0, 2, 3, 4, 5, 6] rfl)
              · have hz := rfl (a := 0)
                refine lv_lload hx hb dX0_creditDays_69 (lv_at hl 2 rfl) ?_
                refine lv_aload_n hx hb dX0_creditDays_71 rfl (lv_at hl 4 rfl) ?_
                refine pg_get (D := D) (ci := 1) (v := .ref v16_2) (C := RX1) (T := TX1) (N := 4) hx hb hg inG1 hown hK hP ik1.1 hM16 rfl 2 (by decide) (hg _ wd_230) (fun _ h9 => h9) rfl dX0_creditDays_72 ?_
                refine lv_iload hx hb dX0_creditDays_75 (lv_at hl 1 rfl) ?_
                obtain ⟨f92, hM92⟩ := hW.open_57 h16_2
                refine pg_iald hx hb hK hP h16_2.1 0 hM92 rfl (inbN v6w12 n16 (by omega) (by omega)) dX0_creditDays_77 ?_
                refine lv_topi (fun f_93 ef_93 => ?_)
                refine lv_i2l hx hb dX0_creditDays_78 rfl ?_
                refine lv_topl (fun f_94 ef_94 => ?_)
                refine lv_ladd hx hb dX0_creditDays_79 ?_
                refine lv_topl (fun f_95 ef_95 => ?_)
                refine lv_lstore (lv' := [(4, .long f_95), (7, .int f_41), (6, .int (nI v6w12)), (0, .ref oa), (1, .ref k1), (2, .ref k2), (3, .ref k3)]) hx hb dX0_creditDays_80 hl (by decide) rfl (fun ls hl => ?_)
                refine lv_goto (tgt := 103) hx hb dX0_creditDays_82 (by decide) ?_
                refine lv_iinc (v := (nI (v6w12 + 1))) (lv' := [(6, .int (nI (v6w12 + 1))), (4, .long f_95), (7, .int f_41), (0, .ref oa), (1, .ref k1), (2, .ref k2), (3, .ref k3)]) hx hb dX0_creditDays_103 hl (k := 2) rfl (nI_1 v6w12) (by decide) rfl (fun ls hl => ?_)
                refine lv_goto (tgt := 17) hx hb dX0_creditDays_106 (by decide) ?_
                exact ih_10 (v6w12 + 1) f_95 M_14 H_15 _ _ (by omega) (by omega) hW hF hP hD hS (lv_sub hl [0, 1, 3, 4, 5, 6] rfl)
            · have hz := rfl (a := 0)
              refine lv_goto (tgt := 103) hx hb dX0_creditDays_61 (by decide) ?_
              refine lv_iinc (v := (nI (v6w12 + 1))) (lv' := [(6, .int (nI (v6w12 + 1))), (7, .int f_41), (4, .long v4w12), (0, .ref oa), (1, .ref k1), (2, .ref k2), (3, .ref k3)]) hx hb dX0_creditDays_103 hl (k := 1) rfl (nI_1 v6w12) (by decide) rfl (fun ls hl => ?_)
              refine lv_goto (tgt := 17) hx hb dX0_creditDays_106 (by decide) ?_
              exact ih_10 (v6w12 + 1) v4w12 M_14 H_15 _ _ (by omega) (by omega) hW hF hP hD hS (lv_sub hl [0, 2, 3, 4, 5, 6] rfl)
  exact key_9 (120 - 0 + 1) 0 v1_9 M_5 H_3 _ _ (by omega) (by omega) hW hF hP hD hS (lv_sub hl [0, 1, 2, 3, 4, 5] rfl)
set_option maxHeartbeats 4000000 in
set_option maxRecDepth 100000 in
theorem s_X0_giveInterest (l : Launch) (D : va_G) (cy : Nat → ClassId) (K : Kp) (L : List Nat) (M : Hp) (sz : Nat) (oa : Nat) (k1 : Nat) (k2 : Nat) (k3 : Nat) (hW : WOK cy K L M) (ia : isk K L oa 0 0) (ik1 : isk K L k1 2 0) (ik2 : isk K L k2 8 0) (ik3 : isk K L k3 6 0) : Met l yX0_giveInterest (wsM yX0_giveInterest cX0_giveInterest 10 (some .long)) ({ frames := 2, cells := 0, slots := 0, locals := 52 }) (va_Pc [.ref oa, .ref k1, .ref k2, .ref k3] (PG D cy [] L M sz)) (va_Ql (fun (r : Int64) (M9 : Hp) => WOK cy K L M9 ∧ fr K L [66, 72] M M9 ∧ (True)) (fun M9 t => PQ D [] L M9 (va_A ([] ++ va_pl L M) sz) t) (va_A ([] ++ va_pl L M) sz)) 0 0 (va_A ([] ++ va_pl L M) sz) := by
  refine Met.ofW (cc := cX0_giveInterest) (maxL := 10) (ret := (some .long)) (by decide) rfl ?_
  intro p e s m args below meth c s₁ B hml hv
  obtain ⟨rfl, hsz, hP, hK, hD0, hN⟩ := hv
  have hx := B.exec
  have hb := B.bytes
  have hr := B.returns
  have hts := atoms_spec (ws := (wsM yX0_giveInterest cX0_giveInterest 10 (some .long))) B.pre
  have hg : ∀ w ∈ lw_good, w.before _ s = true := fun w h => hts w (List.mem_cons_of_mem _ h)
  have hown : s.vm.findClass RX0 = some m.cls := findClass_of_methodNamed B.named
  have hlocks := B.notSynchronized
  subst hsz
  have hD := hD0.self (sz := s.heap.size)
  generalize hAe : va_A ([] ++ va_pl L M) s.heap.size = A at hD ⊢
  have hA : ∀ q : Nat, s.heap.size ≤ q → A q := fun q h => by rw [← hAe]; exact Or.inr h
  have hS : va_S A s.heap s.heap [] := va_S.rf
  have hl := lv_entry ([.ref oa, .ref k1, .ref k2, .ref k3]) (n := 10) (Nat.le_of_ble_eq_true rfl)
  rw [lg_entry_eq]
  generalize (lg_sl ([.ref oa, .ref k1, .ref k2, .ref k3]) ++ List.replicate (10 - (lg_sl ([.ref oa, .ref k1, .ref k2, .ref k3])).length) Slot.unset).toArray = ls at hl ⊢
  refine W.nameQ (fun Q hQ => ?_)
  refine W.nameR (fun R hR => ?_)
  have hRf : 2 ≤ R.frames := by rw [hR]; exact Nat.le_of_ble_eq_true rfl
  have hRl : 52 ≤ R.locals := by rw [hR]; exact Nat.le_of_ble_eq_true rfl
  have hRc : 0 ≤ R.cells := by rw [hR]; exact Nat.le_of_ble_eq_true rfl
  have hRs : 0 ≤ R.slots := by rw [hR]; exact Nat.le_of_ble_eq_true rfl
  have hF : fr K L [66, 72] M M := fr.rf
  have hl : lv_has ls 10 [(0, .ref oa), (1, .ref k1), (2, .ref k2), (3, .ref k3)] := hl
  refine lv_lconst (v := 0) hx hb dX0_giveInterest_0 (by decide) ?_
  refine lv_lstore (lv' := [(4, .long 0), (0, .ref oa), (1, .ref k1), (2, .ref k2), (3, .ref k3)]) hx hb dX0_giveInterest_1 hl (by decide) rfl (fun ls hl => ?_)
  refine lv_iconst (v := 0) hx hb dX0_giveInterest_3 (by decide) ?_
  refine lv_istore (lv' := [(6, .int 0), (4, .long 0), (0, .ref oa), (1, .ref k1), (2, .ref k2), (3, .ref k3)]) hx hb dX0_giveInterest_4 hl (by decide) rfl (fun ls hl => ?_)
  have key_1 : ∀ (fu_3 : Nat) (v6w4 : Nat) (v4w4 : Int64) (M_6 : Hp) (H_7 : Heap) (locs : List Loc) (ls : Array Slot), 6 - v6w4 < fu_3 → v6w4 ≤ 6 → WOK cy K L M_6 → fr K L [66, 72] M M_6 → va_P D vwCl ([] ++ va_pl L M_6) H_7 → va_D A ([] ++ va_pl L M_6) → va_S A s.heap H_7 locs → lv_has ls 10 [(6, .int (nI v6w4)), (4, .long v4w4), (0, .ref oa), (1, .ref k1), (2, .ref k2), (3, .ref k3)] → W p l e R s m ([.ref oa, .ref k1, .ref k2, .ref k3] : List Value).toArray below meth c H_7 locs 0 0 Q (F0 m 6 ls []) := by
    intro fu_3
    induction fu_3 with
    | zero => intro v6w4 v4w4 M_6 H_7 locs ls h; exact absurd h (Nat.not_lt_zero _)
    | succ fu_3 ih_2 =>
      intro v6w4 v4w4 M_6 H_7 locs ls hfu hx_5 hW hF hP hD hS hl
      refine lv_iload hx hb dX0_giveInterest_6 (lv_at hl 0 rfl) ?_
      refine lv_bipush (v := 6) hx hb dX0_giveInterest_8 (by decide) ?_
      refine lv_icmp_ge (tgt := 82) hx hb dX0_giveInterest_10 (by decide) (fun c_8 => ?_) (fun c_8 => ?_)
      · have hz := rfl (a := 0)
        have n_9 : 6 ≤ v6w4 := (iLE (a := 6) (b := v6w4) (by omega) (by omega)).mp c_8
        refine lv_lload hx hb dX0_giveInterest_82 (lv_at hl 1 rfl) ?_
        rw [hQ]
        exact W.lret (v := v4w4) hx hb hr (fun t ht hW9 => ⟨⟨v4w4, M_6, rfl, ⟨hW, hF, trivial⟩, ⟨by rw [ht]; exact hP, hD⟩⟩, hS.F ht⟩) hS.2.2 dX0_giveInterest_84
      · have hz := rfl (a := 0)
        have n_10 : ¬ (6 ≤ v6w4) := fun q => c_8 ((iLE (a := 6) (b := v6w4) (by omega) (by omega)).mpr q)
        refine lv_aload_n hx hb dX0_giveInterest_13 rfl (lv_at hl 5 rfl) ?_
        obtain ⟨v11_0, v11_1, v11_2, hM11, h11_2⟩ := hW.open_6 ik3
        refine pg_get (D := D) (ci := 6) (v := .int v11_1) (C := RX6) (T := TX6) (N := 3) hx hb hg inG6 hown hK hP ik3.1 hM11 rfl 1 (by decide) (hg _ wd_231) (fun _ h9 => h9) rfl dX0_giveInterest_14 ?_
        refine lv_if_le (tgt := 82) hx hb dX0_giveInterest_17 (by decide) (fun c_12 => ?_) (fun c_12 => ?_)
        · have hz := rfl (a := 0)
          refine lv_lload hx hb dX0_giveInterest_82 (lv_at hl 1 rfl) ?_
          rw [hQ]
          exact W.lret (v := v4w4) hx hb hr (fun t ht hW9 => ⟨⟨v4w4, M_6, rfl, ⟨hW, hF, trivial⟩, ⟨by rw [ht]; exact hP, hD⟩⟩, hS.F ht⟩) hS.2.2 dX0_giveInterest_84
        · have hz := rfl (a := 0)
          refine lv_aload_n hx hb dX0_giveInterest_20 rfl (lv_at hl 4 rfl) ?_
          obtain ⟨v13_0, v13_1, v13_2, v13_3, v13_4, v13_5, hM13, h13_0, h13_1⟩ := hW.open_8 ik2
          refine pg_get (D := D) (ci := 8) (v := .ref v13_0) (C := RX8) (T := TX8) (N := 6) hx hb hg inG8 hown hK hP ik2.1 hM13 rfl 0 (by decide) (hg _ wd_212) (fun _ h9 => h9) rfl dX0_giveInterest_21 ?_
          refine lv_iload hx hb dX0_giveInterest_24 (lv_at hl 0 rfl) ?_
          obtain ⟨f14, hM14, hf14⟩ := hW.open_65 h13_0
          have hi_15 : vp_in (nI v6w4) 6 := (inbN v6w4 6 (by omega) (by omega))
          refine pg_aldq hx hb hK hP h13_0.1 8 hM14 rfl hi_15 dX0_giveInterest_26 ?_
          obtain ⟨q_16, ho_17⟩ : ∃ q : Option Nat, q = f14 ((nI v6w4) : Int32).toNatClampNeg := ⟨_, rfl⟩
          rw [← ho_17]
          have hq_18 : iskN K L q_16 9 0 := by rw [ho_17]; exact hf14 _ (vp_lt hi_15)
          rcases q_16 with _ | bq_16
          · have hz := rfl (a := 0)
            refine lv_astoreN (lv' := [(7, .null), (6, .int (nI v6w4)), (4, .long v4w4), (0, .ref oa), (1, .ref k1), (2, .ref k2), (3, .ref k3)]) hx hb dX0_giveInterest_27 hl (by decide) rfl (fun ls hl => ?_)
            refine lv_aloadN hx hb dX0_giveInterest_29 (lv_at hl 0 rfl) ?_
            refine lv_ifnullN (tgt := 76) hx hb dX0_giveInterest_31 (by decide) ?_
            refine lv_iinc (v := (nI (v6w4 + 1))) (lv' := [(6, .int (nI (v6w4 + 1))), (7, .null), (4, .long v4w4), (0, .ref oa), (1, .ref k1), (2, .ref k2), (3, .ref k3)]) hx hb dX0_giveInterest_76 hl (k := 1) rfl (nI_1 v6w4) (by decide) rfl (fun ls hl => ?_)
            refine lv_goto (tgt := 6) hx hb dX0_giveInterest_79 (by decide) ?_
            exact ih_2 (v6w4 + 1) v4w4 M_6 H_7 _ _ (by omega) (by omega) hW hF hP hD hS (lv_sub hl [0, 2, 3, 4, 5, 6] rfl)
          · have hb_19 := hq_18 bq_16 rfl
            refine lv_astore (lv' := [(7, .ref bq_16), (6, .int (nI v6w4)), (4, .long v4w4), (0, .ref oa), (1, .ref k1), (2, .ref k2), (3, .ref k3)]) hx hb dX0_giveInterest_27 hl (by decide) rfl (fun ls hl => ?_)
            refine lv_aload hx hb dX0_giveInterest_29 (lv_at hl 0 rfl) ?_
            refine lv_ifnull hx hb dX0_giveInterest_31 ?_
            refine lv_aload_n hx hb dX0_giveInterest_34 rfl (lv_at hl 3 rfl) ?_
            refine lv_aload_n hx hb dX0_giveInterest_35 rfl (lv_at hl 4 rfl) ?_
            obtain ⟨v20_0, v20_1, v20_2, v20_3, v20_4, v20_5, v20_6, v20_7, v20_8, v20_9, v20_10, v20_11, v20_12, v20_13, v20_14, v20_15, v20_16, v20_17, v20_18, v20_19, hM20, h20_3, h20_4, h20_5, h20_6, h20_7, h20_8, h20_9, h20_10, h20_11, h20_12, h20_13, h20_16, h20_17, h20_18, h20_19⟩ := hW.open_2 ik1
            refine pg_get (D := D) (ci := 2) (v := .ref v20_16) (C := RX2) (T := TX2) (N := 20) hx hb hg inG2 hown hK hP ik1.1 hM20 rfl 16 (by decide) (hg _ wd_232) (fun _ h9 => h9) rfl dX0_giveInterest_36 ?_
            refine lv_aload_n hx hb dX0_giveInterest_39 rfl (lv_at hl 5 rfl) ?_
            refine lv_aload hx hb dX0_giveInterest_40 (lv_at hl 0 rfl) ?_
            obtain ⟨v21_0, v21_1, v21_2, v21_3, v21_4, hM21, h21_0, h21_1, h21_2, h21_3⟩ := hW.open_0 ia
            have hPc : va_P D vwCl ([] ++ va_pl L M_6) H_7 := hP
            have hDc : va_D A ([] ++ va_pl L M_6) := hD
            have hFc : ∀ q, va_A ([] ++ va_pl L M_6) H_7.size q → A q := pg_free hDc hS hA
            refine va_calll (va_runV (As := [.ref v20_16, .ref k2, .ref bq_16]) (rest := []) ⟨hx, hb, hml, hown, hg⟩ (s_X0_creditDays l D cy K L M_6 H_7.size oa v20_16 k2 bq_16  hW ia h20_16 ik2 hb_19) (cwV 3 hg (gV wd_233 wd_234 wd_235 wd_204 wd_236) rfl rfl rfl (by decide +kernel) ⟨(Nat.le_trans (Nat.le_of_ble_eq_true rfl) hRf), (Nat.le_trans (Nat.le_of_ble_eq_true rfl) hRl)⟩) ⟨PG.blind, pg_recv hK hP ia.1 hM21 rfl, fun U hU hW => ⟨rfl, PG.at hPc hK hDc hN hU hW⟩⟩ rfl rfl hl.1 rfl (lv_room (Nat.le_of_ble_eq_true rfl)) dX0_giveInterest_42 ⟨(Nat.le_trans (Nat.le_of_ble_eq_true rfl) hRc), (Nat.le_trans (Nat.le_of_ble_eq_true rfl) hRs)⟩) hS (fun q _ h => hFc q h) hFc (fun r_23 M_24 t H_22 locs ht hvm hw hB hz1 hk1 hS => ?_)
            obtain ⟨hW, hF2, hp_25⟩ := hw
            obtain ⟨hP1, hD1⟩ := hB
            rw [ht] at hP1
            have hP : va_P D vwCl ([] ++ va_pl L M_24) H_22 := hP1
            have hD : va_D A ([] ++ va_pl L M_24) := hD1.mono hFc
            have hM_26 : M_24 k3 = (b6_13 v11_0 v11_1 v11_2) := (hF2.at ik3 (by decide)).trans hM11
            have hM_27 : M_24 k2 = (b8_11 v13_0 v13_1 v13_2 v13_3 v13_4 v13_5) := (hF2.at ik2 (by decide)).trans hM13
            have hM_28 : M_24 v13_0 = .inl (cy 22, 6, .inr (.inr (.inr (.inr (f14))))) := (hF2.at h13_0 (by decide)).trans hM14
            have hM_29 : M_24 k1 = (b2_2 v20_0 v20_1 v20_2 v20_3 (nI v20_4) (nI v20_5) v20_6 v20_7 v20_8 (nI v20_9) v20_10 (nI v20_11) v20_12 v20_13 v20_14 v20_15 v20_16 v20_17 v20_18 v20_19) := (hF2.at ik1 (by decide)).trans hM20
            have hM_30 : M_24 oa = (b0_7 v21_0 v21_1 v21_2 (nI v21_3) v21_4) := (hF2.at ia (by decide)).trans hM21
            have hF : fr K L [66, 72] M M_24 := hF.tr hF2 (by decide)
            refine lv_aload_n hx hb dX0_giveInterest_45 rfl (lv_at hl 6 rfl) ?_
            refine pg_get (D := D) (ci := 6) (v := .int v11_1) (C := RX6) (T := TX6) (N := 3) hx hb hg inG6 hown hK hP ik3.1 hM_26 rfl 1 (by decide) (hg _ wd_231) (fun _ h9 => h9) rfl dX0_giveInterest_46 ?_
            refine lv_i2l hx hb dX0_giveInterest_49 rfl ?_
            refine lv_topl (fun f_31 ef_31 => ?_)
            refine lv_lmul hx hb dX0_giveInterest_50 ?_
            refine lv_topl (fun f_32 ef_32 => ?_)
            refine lv_ldc2 (v := 360000) hx hb hown (hg _ wd_237) dX0_giveInterest_51 ?_
            refine lv_ldiv hx hb dX0_giveInterest_54 (by decide) ?_
            refine lv_topl (fun f_33 ef_33 => ?_)
            refine lv_lstore (lv' := [(8, .long f_33), (7, .ref bq_16), (6, .int (nI v6w4)), (4, .long v4w4), (0, .ref oa), (1, .ref k1), (2, .ref k2), (3, .ref k3)]) hx hb dX0_giveInterest_55 hl (by decide) rfl (fun ls hl => ?_)
            refine lv_aload_n hx hb dX0_giveInterest_57 rfl (lv_at hl 6 rfl) ?_
            refine pg_get (D := D) (ci := 8) (v := .ref v13_1) (C := RX8) (T := TX8) (N := 6) hx hb hg inG8 hown hK hP ik2.1 hM_27 rfl 1 (by decide) (hg _ wd_221) (fun _ h9 => h9) rfl dX0_giveInterest_58 ?_
            refine lv_iload hx hb dX0_giveInterest_61 (lv_at hl 2 rfl) ?_
            refine lv_dup2_11 hx hb dX0_giveInterest_63 rfl rfl ?_
            obtain ⟨f34, hM34⟩ := hW.open_72 h13_1
            refine pg_lald hx hb hK hP h13_1.1 1 hM34 rfl (inbN v6w4 6 (by omega) (by omega)) dX0_giveInterest_64 ?_
            refine lv_topl (fun f_35 ef_35 => ?_)
            refine lv_lload hx hb dX0_giveInterest_65 (lv_at hl 0 rfl) ?_
            refine lv_ladd hx hb dX0_giveInterest_67 ?_
            refine lv_topl (fun f_36 ef_36 => ?_)
            refine pg_last hx hb hK hP hD hS h13_1.1 1 hM34 rfl (inbN v6w4 6 (by omega) (by omega)) dX0_giveInterest_68 (fun H_37 locs hP hD hS => ?_)
            obtain ⟨M_38, eM_38⟩ : ∃ M1 : Hp, M1 = va_up M_24 v13_1 (.inl (cy 15, 6, .inr (.inl (vp_updL f34 ((nI v6w4) : Int32).toNatClampNeg f_36)))) := ⟨_, rfl⟩
            have hP : va_P D vwCl ([] ++ va_pl L M_38) H_37 := by rw [eM_38]; exact hP
            have hD : va_D A ([] ++ va_pl L M_38) := by rw [eM_38]; exact hD
            have hW : WOK cy K L M_38 := by rw [eM_38]; exact hW.up_72 h13_1 ⟨_, rfl⟩
            have hF : fr K L [66, 72] M M_38 := by rw [eM_38]; exact hF.up h13_1 (by decide)
            have hM_39 : M_38 v13_1 = .inl (cy 15, 6, .inr (.inl (vp_updL f34 ((nI v6w4) : Int32).toNatClampNeg f_36))) := by rw [eM_38]; exact va_up_self _ _ _
            have hM_40 : M_38 k3 = (b6_13 v11_0 v11_1 v11_2) := by rw [eM_38, va_up_ne _ _ (ik3.neT h13_1 (by decide))]; exact hM_26
            have hM_41 : M_38 k2 = (b8_11 v13_0 v13_1 v13_2 v13_3 v13_4 v13_5) := by rw [eM_38, va_up_ne _ _ (ik2.neT h13_1 (by decide))]; exact hM_27
            have hM_42 : M_38 v13_0 = .inl (cy 22, 6, .inr (.inr (.inr (.inr (f14))))) := by rw [eM_38, va_up_ne _ _ (h13_0.neT h13_1 (by decide))]; exact hM_28
            have hM_43 : M_38 k1 = (b2_2 v20_0 v20_1 v20_2 v20_3 (nI v20_4) (nI v20_5) v20_6 v20_7 v20_8 (nI v20_9) v20_10 (nI v20_11) v20_12 v20_13 v20_14 v20_15 v20_16 v20_17 v20_18 v20_19) := by rw [eM_38, va_up_ne _ _ (ik1.neT h13_1 (by decide))]; exact hM_29
            have hM_44 : M_38 oa = (b0_7 v21_0 v21_1 v21_2 (nI v21_3) v21_4) := by rw [eM_38, va_up_ne _ _ (ia.neT h13_1 (by decide))]; exact hM_30
            obtain ⟨f_45, ef_45⟩ : ∃ f : Nat → Int64, f = vp_updL f34 ((nI v6w4) : Int32).toNatClampNeg f_36 := ⟨_, rfl⟩
            rw [← ef_45] at hM_39
            clear ef_45
            refine lv_lload hx hb dX0_giveInterest_69 (lv_at hl 3 rfl) ?_
            refine lv_lload hx hb dX0_giveInterest_71 (lv_at hl 0 rfl) ?_
            refine lv_ladd hx hb dX0_giveInterest_73 ?_
            refine lv_topl (fun f_46 ef_46 => ?_)
            refine lv_lstore (lv' := [(4, .long f_46), (8, .long f_33), (7, .ref bq_16), (6, .int (nI v6w4)), (0, .ref oa), (1, .ref k1), (2, .ref k2), (3, .ref k3)]) hx hb dX0_giveInterest_74 hl (by decide) rfl (fun ls hl => ?_)
            refine lv_iinc (v := (nI (v6w4 + 1))) (lv' := [(6, .int (nI (v6w4 + 1))), (4, .long f_46), (8, .long f_33), (7, .ref bq_16), (0, .ref oa), (1, .ref k1), (2, .ref k2), (3, .ref k3)]) hx hb dX0_giveInterest_76 hl (k := 3) rfl (nI_1 v6w4) (by decide) rfl (fun ls hl => ?_)
            refine lv_goto (tgt := 6) hx hb dX0_giveInterest_79 (by decide) ?_
            exact ih_2 (v6w4 + 1) f_46 M_38 H_37 _ _ (by omega) (by omega) hW hF hP hD hS (lv_sub hl [0, 1, 4, 5, 6, 7] rfl)
  exact key_1 (6 - 0 + 1) 0 0 M s.heap _ _ (by omega) (by omega) hW hF hP hD hS (lv_sub hl [0, 1, 2, 3, 4, 5] rfl)
set_option maxHeartbeats 4000000 in
set_option maxRecDepth 100000 in
theorem s_X0_giveSums (l : Launch) (D : va_G) (cy : Nat → ClassId) (K : Kp) (L : List Nat) (M : Hp) (sz : Nat) (oa : Nat) (k1 : Nat) (k2 : Nat) (k3 : Int64) (hW : WOK cy K L M) (ia : isk K L oa 0 0) (ik1 : isk K L k1 8 0) (ik2 : isk K L k2 6 0) : Met l yX0_giveSums (wsM yX0_giveSums cX0_giveSums 10 (some .long)) ({ frames := 2, cells := 0, slots := 0, locals := 43 }) (va_Pc [.ref oa, .ref k1, .ref k2, .long k3] (PG D cy [] L M sz)) (va_Ql (fun (r : Int64) (M9 : Hp) => WOK cy K L M9 ∧ fr K L [72] M M9 ∧ (True)) (fun M9 t => PQ D [] L M9 (va_A ([] ++ va_pl L M) sz) t) (va_A ([] ++ va_pl L M) sz)) 0 0 (va_A ([] ++ va_pl L M) sz) := by
  refine Met.ofW (cc := cX0_giveSums) (maxL := 10) (ret := (some .long)) (by decide) rfl ?_
  intro p e s m args below meth c s₁ B hml hv
  obtain ⟨rfl, hsz, hP, hK, hD0, hN⟩ := hv
  have hx := B.exec
  have hb := B.bytes
  have hr := B.returns
  have hts := atoms_spec (ws := (wsM yX0_giveSums cX0_giveSums 10 (some .long))) B.pre
  have hg : ∀ w ∈ lw_good, w.before _ s = true := fun w h => hts w (List.mem_cons_of_mem _ h)
  have hown : s.vm.findClass RX0 = some m.cls := findClass_of_methodNamed B.named
  have hlocks := B.notSynchronized
  subst hsz
  have hD := hD0.self (sz := s.heap.size)
  generalize hAe : va_A ([] ++ va_pl L M) s.heap.size = A at hD ⊢
  have hA : ∀ q : Nat, s.heap.size ≤ q → A q := fun q h => by rw [← hAe]; exact Or.inr h
  have hS : va_S A s.heap s.heap [] := va_S.rf
  have hl := lv_entry ([.ref oa, .ref k1, .ref k2, .long k3]) (n := 10) (Nat.le_of_ble_eq_true rfl)
  rw [lg_entry_eq]
  generalize (lg_sl ([.ref oa, .ref k1, .ref k2, .long k3]) ++ List.replicate (10 - (lg_sl ([.ref oa, .ref k1, .ref k2, .long k3])).length) Slot.unset).toArray = ls at hl ⊢
  refine W.nameQ (fun Q hQ => ?_)
  refine W.nameR (fun R hR => ?_)
  have hRf : 2 ≤ R.frames := by rw [hR]; exact Nat.le_of_ble_eq_true rfl
  have hRl : 43 ≤ R.locals := by rw [hR]; exact Nat.le_of_ble_eq_true rfl
  have hRc : 0 ≤ R.cells := by rw [hR]; exact Nat.le_of_ble_eq_true rfl
  have hRs : 0 ≤ R.slots := by rw [hR]; exact Nat.le_of_ble_eq_true rfl
  have hF : fr K L [72] M M := fr.rf
  have hl : lv_has ls 10 [(0, .ref oa), (1, .ref k1), (2, .ref k2), (3, .long k3)] := hl
  refine lv_lconst (v := 0) hx hb dX0_giveSums_0 (by decide) ?_
  refine lv_lstore (lv' := [(5, .long 0), (0, .ref oa), (1, .ref k1), (2, .ref k2), (3, .long k3)]) hx hb dX0_giveSums_1 hl (by decide) rfl (fun ls hl => ?_)
  refine lv_iconst (v := 0) hx hb dX0_giveSums_3 (by decide) ?_
  refine lv_istore (lv' := [(7, .int 0), (5, .long 0), (0, .ref oa), (1, .ref k1), (2, .ref k2), (3, .long k3)]) hx hb dX0_giveSums_4 hl (by decide) rfl (fun ls hl => ?_)
  have key_1 : ∀ (fu_3 : Nat) (v7w4 : Nat) (v5w4 : Int64) (M_6 : Hp) (H_7 : Heap) (locs : List Loc) (ls : Array Slot), 6 - v7w4 < fu_3 → v7w4 ≤ 6 → WOK cy K L M_6 → fr K L [72] M M_6 → va_P D vwCl ([] ++ va_pl L M_6) H_7 → va_D A ([] ++ va_pl L M_6) → va_S A s.heap H_7 locs → lv_has ls 10 [(7, .int (nI v7w4)), (5, .long v5w4), (0, .ref oa), (1, .ref k1), (2, .ref k2), (3, .long k3)] → W p l e R s m ([.ref oa, .ref k1, .ref k2, .long k3] : List Value).toArray below meth c H_7 locs 0 0 Q (F0 m 6 ls []) := by
    intro fu_3
    induction fu_3 with
    | zero => intro v7w4 v5w4 M_6 H_7 locs ls h; exact absurd h (Nat.not_lt_zero _)
    | succ fu_3 ih_2 =>
      intro v7w4 v5w4 M_6 H_7 locs ls hfu hx_5 hW hF hP hD hS hl
      refine lv_iload hx hb dX0_giveSums_6 (lv_at hl 0 rfl) ?_
      refine lv_bipush (v := 6) hx hb dX0_giveSums_8 (by decide) ?_
      refine lv_icmp_ge (tgt := 65) hx hb dX0_giveSums_10 (by decide) (fun c_8 => ?_) (fun c_8 => ?_)
      · have hz := rfl (a := 0)
        have n_9 : 6 ≤ v7w4 := (iLE (a := 6) (b := v7w4) (by omega) (by omega)).mp c_8
        refine lv_lload hx hb dX0_giveSums_65 (lv_at hl 1 rfl) ?_
        rw [hQ]
        exact W.lret (v := v5w4) hx hb hr (fun t ht hW9 => ⟨⟨v5w4, M_6, rfl, ⟨hW, hF, trivial⟩, ⟨by rw [ht]; exact hP, hD⟩⟩, hS.F ht⟩) hS.2.2 dX0_giveSums_67
      · have hz := rfl (a := 0)
        have n_10 : ¬ (6 ≤ v7w4) := fun q => c_8 ((iLE (a := 6) (b := v7w4) (by omega) (by omega)).mpr q)
        refine lv_aload_n hx hb dX0_giveSums_13 rfl (lv_at hl 3 rfl) ?_
        obtain ⟨v11_0, v11_1, v11_2, v11_3, v11_4, v11_5, hM11, h11_0, h11_1⟩ := hW.open_8 ik1
        refine pg_get (D := D) (ci := 8) (v := .ref v11_0) (C := RX8) (T := TX8) (N := 6) hx hb hg inG8 hown hK hP ik1.1 hM11 rfl 0 (by decide) (hg _ wd_212) (fun _ h9 => h9) rfl dX0_giveSums_14 ?_
        refine lv_iload hx hb dX0_giveSums_17 (lv_at hl 0 rfl) ?_
        obtain ⟨f12, hM12, hf12⟩ := hW.open_65 h11_0
        have hi_13 : vp_in (nI v7w4) 6 := (inbN v7w4 6 (by omega) (by omega))
        refine pg_aldq hx hb hK hP h11_0.1 8 hM12 rfl hi_13 dX0_giveSums_19 ?_
        obtain ⟨q_14, ho_15⟩ : ∃ q : Option Nat, q = f12 ((nI v7w4) : Int32).toNatClampNeg := ⟨_, rfl⟩
        rw [← ho_15]
        have hq_16 : iskN K L q_14 9 0 := by rw [ho_15]; exact hf12 _ (vp_lt hi_13)
        rcases q_14 with _ | bq_14
        · have hz := rfl (a := 0)
          refine lv_ifnullN (tgt := 59) hx hb dX0_giveSums_20 (by decide) ?_
          refine lv_iinc (v := (nI (v7w4 + 1))) (lv' := [(7, .int (nI (v7w4 + 1))), (5, .long v5w4), (0, .ref oa), (1, .ref k1), (2, .ref k2), (3, .long k3)]) hx hb dX0_giveSums_59 hl (k := 0) rfl (nI_1 v7w4) (by decide) rfl (fun ls hl => ?_)
          refine lv_goto (tgt := 6) hx hb dX0_giveSums_62 (by decide) ?_
          exact ih_2 (v7w4 + 1) v5w4 M_6 H_7 _ _ (by omega) (by omega) hW hF hP hD hS (lv_sub hl [0, 1, 2, 3, 4, 5] rfl)
        · have hb_17 := hq_16 bq_14 rfl
          refine lv_ifnull hx hb dX0_giveSums_20 ?_
          refine lv_aload_n hx hb dX0_giveSums_23 rfl (lv_at hl 4 rfl) ?_
          refine lv_iload hx hb dX0_giveSums_24 (lv_at hl 0 rfl) ?_
          refine lv_iconst (v := 1) hx hb dX0_giveSums_26 (by decide) ?_
          obtain ⟨v18_0, v18_1, v18_2, hM18, h18_2⟩ := hW.open_6 ik2
          have hPc : va_P D vwCl ([] ++ va_pl L M_6) H_7 := hP
          have hDc : va_D A ([] ++ va_pl L M_6) := hD
          have hFc : ∀ q, va_A ([] ++ va_pl L M_6) H_7.size q → A q := pg_free hDc hS hA
          refine va_calli (va_runV (As := [.int (nI v7w4), .int 1]) (rest := []) ⟨hx, hb, hml, hown, hg⟩ (s_X6_termOf l D cy K L M_6 H_7.size k2 (nI v7w4) 1  hW ik2) (cwV 2 hg (gV wd_217 wd_136 wd_137 wd_97 wd_138) rfl rfl rfl (by decide +kernel) ⟨(Nat.le_trans (Nat.le_of_ble_eq_true rfl) hRf), (Nat.le_trans (Nat.le_of_ble_eq_true rfl) hRl)⟩) ⟨PG.blind, pg_recv hK hP ik2.1 hM18 rfl, fun U hU hW => ⟨rfl, PG.at hPc hK hDc hN hU hW⟩⟩ rfl rfl hl.1 rfl (lv_room (Nat.le_of_ble_eq_true rfl)) dX0_giveSums_27 ⟨(Nat.le_trans (Nat.le_of_ble_eq_true rfl) hRc), (Nat.le_trans (Nat.le_of_ble_eq_true rfl) hRs)⟩) hS (fun q _ h => hFc q h) hFc (fun r_20 M_21 t H_19 locs ht hvm hw hB hz1 hk1 hS => ?_)
          have hp_22 := hw
          obtain ⟨hP1, hD1⟩ := hB
          rw [ht] at hP1
          have hP : va_P D vwCl ([] ++ va_pl L M_6) H_19 := hP1
          have hD : va_D A ([] ++ va_pl L M_6) := hD1.mono hFc
          refine lv_i2l hx hb dX0_giveSums_30 rfl ?_
          refine lv_topl (fun f_23 ef_23 => ?_)
          refine lv_lload_n hx hb dX0_giveSums_31 rfl (lv_at hl 5 rfl) ?_
          refine lv_lload hx hb dX0_giveSums_32 (lv_at hl 1 rfl) ?_
          refine lv_lsub hx hb dX0_giveSums_34 ?_
          refine lv_topl (fun f_24 ef_24 => ?_)
          refine va_mmin_long hx hb (by rw [hml]; exact hl.1.symm) hown (hg _ wd_238) (hg _ wd_176) (hg _ wd_12) (hg _ wd_177) (Nat.le_trans (Nat.le_of_ble_eq_true rfl) hRf) (Nat.le_trans (Nat.le_of_ble_eq_true rfl) hRl) (Nat.le_trans (Nat.le_of_ble_eq_true rfl) hRc) (Nat.le_trans (Nat.le_of_ble_eq_true rfl) hRs) dX0_giveSums_35 ?_
          refine lv_topl (fun f_25 ef_25 => ?_)
          refine lv_lstore (lv' := [(8, .long f_25), (7, .int (nI v7w4)), (5, .long v5w4), (0, .ref oa), (1, .ref k1), (2, .ref k2), (3, .long k3)]) hx hb dX0_giveSums_38 hl (by decide) rfl (fun ls hl => ?_)
          refine lv_aload_n hx hb dX0_giveSums_40 rfl (lv_at hl 4 rfl) ?_
          refine pg_get (D := D) (ci := 8) (v := .ref v11_1) (C := RX8) (T := TX8) (N := 6) hx hb hg inG8 hown hK hP ik1.1 hM11 rfl 1 (by decide) (hg _ wd_221) (fun _ h9 => h9) rfl dX0_giveSums_41 ?_
          refine lv_iload hx hb dX0_giveSums_44 (lv_at hl 1 rfl) ?_
          refine lv_dup2_11 hx hb dX0_giveSums_46 rfl rfl ?_
          obtain ⟨f26, hM26⟩ := hW.open_72 h11_1
          refine pg_lald hx hb hK hP h11_1.1 1 hM26 rfl (inbN v7w4 6 (by omega) (by omega)) dX0_giveSums_47 ?_
          refine lv_topl (fun f_27 ef_27 => ?_)
          refine lv_lload hx hb dX0_giveSums_48 (lv_at hl 0 rfl) ?_
          refine lv_ladd hx hb dX0_giveSums_50 ?_
          refine lv_topl (fun f_28 ef_28 => ?_)
          refine pg_last hx hb hK hP hD hS h11_1.1 1 hM26 rfl (inbN v7w4 6 (by omega) (by omega)) dX0_giveSums_51 (fun H_29 locs hP hD hS => ?_)
          obtain ⟨M_30, eM_30⟩ : ∃ M1 : Hp, M1 = va_up M_6 v11_1 (.inl (cy 15, 6, .inr (.inl (vp_updL f26 ((nI v7w4) : Int32).toNatClampNeg f_28)))) := ⟨_, rfl⟩
          have hP : va_P D vwCl ([] ++ va_pl L M_30) H_29 := by rw [eM_30]; exact hP
          have hD : va_D A ([] ++ va_pl L M_30) := by rw [eM_30]; exact hD
          have hW : WOK cy K L M_30 := by rw [eM_30]; exact hW.up_72 h11_1 ⟨_, rfl⟩
          have hF : fr K L [72] M M_30 := by rw [eM_30]; exact hF.up h11_1 (by decide)
          have hM_31 : M_30 v11_1 = .inl (cy 15, 6, .inr (.inl (vp_updL f26 ((nI v7w4) : Int32).toNatClampNeg f_28))) := by rw [eM_30]; exact va_up_self _ _ _
          have hM_32 : M_30 k1 = (b8_11 v11_0 v11_1 v11_2 v11_3 v11_4 v11_5) := by rw [eM_30, va_up_ne _ _ (ik1.neT h11_1 (by decide))]; exact hM11
          have hM_33 : M_30 v11_0 = .inl (cy 22, 6, .inr (.inr (.inr (.inr (f12))))) := by rw [eM_30, va_up_ne _ _ (h11_0.neT h11_1 (by decide))]; exact hM12
          have hM_34 : M_30 k2 = (b6_13 v18_0 v18_1 v18_2) := by rw [eM_30, va_up_ne _ _ (ik2.neT h11_1 (by decide))]; exact hM18
          obtain ⟨f_35, ef_35⟩ : ∃ f : Nat → Int64, f = vp_updL f26 ((nI v7w4) : Int32).toNatClampNeg f_28 := ⟨_, rfl⟩
          rw [← ef_35] at hM_31
          clear ef_35
          refine lv_lload hx hb dX0_giveSums_52 (lv_at hl 2 rfl) ?_
          refine lv_lload hx hb dX0_giveSums_54 (lv_at hl 0 rfl) ?_
          refine lv_ladd hx hb dX0_giveSums_56 ?_
          refine lv_topl (fun f_36 ef_36 => ?_)
          refine lv_lstore (lv' := [(5, .long f_36), (8, .long f_25), (7, .int (nI v7w4)), (0, .ref oa), (1, .ref k1), (2, .ref k2), (3, .long k3)]) hx hb dX0_giveSums_57 hl (by decide) rfl (fun ls hl => ?_)
          refine lv_iinc (v := (nI (v7w4 + 1))) (lv' := [(7, .int (nI (v7w4 + 1))), (5, .long f_36), (8, .long f_25), (0, .ref oa), (1, .ref k1), (2, .ref k2), (3, .long k3)]) hx hb dX0_giveSums_59 hl (k := 2) rfl (nI_1 v7w4) (by decide) rfl (fun ls hl => ?_)
          refine lv_goto (tgt := 6) hx hb dX0_giveSums_62 (by decide) ?_
          exact ih_2 (v7w4 + 1) f_36 M_30 H_29 _ _ (by omega) (by omega) hW hF hP hD hS (lv_sub hl [0, 1, 3, 4, 5, 6] rfl)
  exact key_1 (6 - 0 + 1) 0 0 M s.heap _ _ (by omega) (by omega) hW hF hP hD hS (lv_sub hl [0, 1, 2, 3, 4, 5] rfl)
set_option maxHeartbeats 4000000 in
set_option maxRecDepth 100000 in
theorem s_X0_shareGain (l : Launch) (D : va_G) (cy : Nat → ClassId) (K : Kp) (L : List Nat) (M : Hp) (sz : Nat) (oa : Nat) (k1 : Nat) (k2 : Nat) (k3 : Int64) (hW : WOK cy K L M) (ia : isk K L oa 0 0) (ik1 : isk K L k1 8 0) (ik2 : isk K L k2 6 0) : Met l yX0_shareGain (wsM yX0_shareGain cX0_shareGain 6 none) ({ frames := 3, cells := 0, slots := 0, locals := 68 }) (va_Pc [.ref oa, .ref k1, .ref k2, .long k3] (PG D cy [] L M sz)) (va_Qv (fun (M9 : Hp) => WOK cy K L M9 ∧ fr K L [7, 8, 64, 68, 69, 70, 72] M M9 ∧ (True)) (fun M9 t => PQ D [] L M9 (va_A ([] ++ va_pl L M) sz) t) (va_A ([] ++ va_pl L M) sz)) 0 0 (va_A ([] ++ va_pl L M) sz) := by
  refine Met.ofW (cc := cX0_shareGain) (maxL := 6) (ret := none) (by decide) rfl ?_
  intro p e s m args below meth c s₁ B hml hv
  obtain ⟨rfl, hsz, hP, hK, hD0, hN⟩ := hv
  have hx := B.exec
  have hb := B.bytes
  have hr := B.returns
  have hts := atoms_spec (ws := (wsM yX0_shareGain cX0_shareGain 6 none)) B.pre
  have hg : ∀ w ∈ lw_good, w.before _ s = true := fun w h => hts w (List.mem_cons_of_mem _ h)
  have hown : s.vm.findClass RX0 = some m.cls := findClass_of_methodNamed B.named
  have hlocks := B.notSynchronized
  subst hsz
  have hD := hD0.self (sz := s.heap.size)
  generalize hAe : va_A ([] ++ va_pl L M) s.heap.size = A at hD ⊢
  have hA : ∀ q : Nat, s.heap.size ≤ q → A q := fun q h => by rw [← hAe]; exact Or.inr h
  have hS : va_S A s.heap s.heap [] := va_S.rf
  have hl := lv_entry ([.ref oa, .ref k1, .ref k2, .long k3]) (n := 6) (Nat.le_of_ble_eq_true rfl)
  rw [lg_entry_eq]
  generalize (lg_sl ([.ref oa, .ref k1, .ref k2, .long k3]) ++ List.replicate (6 - (lg_sl ([.ref oa, .ref k1, .ref k2, .long k3])).length) Slot.unset).toArray = ls at hl ⊢
  refine W.nameQ (fun Q hQ => ?_)
  refine W.nameR (fun R hR => ?_)
  have hRf : 3 ≤ R.frames := by rw [hR]; exact Nat.le_of_ble_eq_true rfl
  have hRl : 68 ≤ R.locals := by rw [hR]; exact Nat.le_of_ble_eq_true rfl
  have hRc : 0 ≤ R.cells := by rw [hR]; exact Nat.le_of_ble_eq_true rfl
  have hRs : 0 ≤ R.slots := by rw [hR]; exact Nat.le_of_ble_eq_true rfl
  have hF : fr K L [7, 8, 64, 68, 69, 70, 72] M M := fr.rf
  have hl : lv_has ls 6 [(0, .ref oa), (1, .ref k1), (2, .ref k2), (3, .long k3)] := hl
  refine lv_aload_n hx hb dX0_shareGain_0 rfl (lv_at hl 0 rfl) ?_
  refine lv_aload_n hx hb dX0_shareGain_1 rfl (lv_at hl 1 rfl) ?_
  refine lv_aload_n hx hb dX0_shareGain_2 rfl (lv_at hl 2 rfl) ?_
  refine lv_iconst (v := 2) hx hb dX0_shareGain_3 (by decide) ?_
  obtain ⟨v1_0, v1_1, v1_2, v1_3, v1_4, hM1, h1_0, h1_1, h1_2, h1_3⟩ := hW.open_0 ia
  have hPc : va_P D vwCl ([] ++ va_pl L M) s.heap := hP
  have hDc : va_D A ([] ++ va_pl L M) := hD
  have hFc : ∀ q, va_A ([] ++ va_pl L M) s.heap.size q → A q := pg_free hDc hS hA
  refine va_callv (va_runV (As := [.ref k1, .ref k2, .int 2]) (rest := []) ⟨hx, hb, hml, hown, hg⟩ (s_X0_weigh l D cy K L M s.heap.size oa k1 k2 2  hW ia ik1 ik2) (cwV 3 hg (gV wd_239 wd_240 wd_241 wd_204 wd_242) rfl rfl rfl (by decide +kernel) ⟨(Nat.le_trans (Nat.le_of_ble_eq_true rfl) hRf), (Nat.le_trans (Nat.le_of_ble_eq_true rfl) hRl)⟩) ⟨PG.blind, pg_recv hK hP ia.1 hM1 rfl, fun U hU hW => ⟨rfl, PG.at hPc hK hDc hN hU hW⟩⟩ rfl rfl hl.1 rfl (lv_room (Nat.le_of_ble_eq_true rfl)) dX0_shareGain_4 ⟨(Nat.le_trans (Nat.le_of_ble_eq_true rfl) hRc), (Nat.le_trans (Nat.le_of_ble_eq_true rfl) hRs)⟩) hS (fun q _ h => hFc q h) hFc (fun M_4 t H_2 locs ht hvm hw hB hz1 hk1 hS => ?_)
  obtain ⟨hW, hF2, hp_5⟩ := hw
  obtain ⟨hP1, hD1⟩ := hB
  rw [ht] at hP1
  have hP : va_P D vwCl ([] ++ va_pl L M_4) H_2 := hP1
  have hD : va_D A ([] ++ va_pl L M_4) := hD1.mono hFc
  have hM_6 : M_4 oa = (b0_7 v1_0 v1_1 v1_2 (nI v1_3) v1_4) := (hF2.at ia (by decide)).trans hM1
  have hF : fr K L [7, 8, 64, 68, 69, 70, 72] M M_4 := hF.tr hF2 (by decide)
  refine lv_aload_n hx hb dX0_shareGain_7 rfl (lv_at hl 1 rfl) ?_
  refine lv_lload_n hx hb dX0_shareGain_8 rfl (lv_at hl 3 rfl) ?_
  refine lv_aload_n hx hb dX0_shareGain_9 rfl (lv_at hl 0 rfl) ?_
  refine pg_get (D := D) (ci := 0) (v := .ref v1_2) (C := RX0) (T := TX0) (N := 5) hx hb hg inG0 hown hK hP ia.1 hM_6 rfl 2 (by decide) (hg _ wd_207) (fun _ h9 => h9) rfl dX0_shareGain_10 ?_
  refine lv_lload_n hx hb dX0_shareGain_13 rfl (lv_at hl 3 rfl) ?_
  obtain ⟨v7_0, v7_1, v7_2, v7_3, v7_4, v7_5, hM7, h7_0, h7_1, h7_2, h7_3, h7_4, h7_5⟩ := hW.open_7 h1_2
  have hPc : va_P D vwCl ([] ++ va_pl L M_4) H_2 := hP
  have hDc : va_D A ([] ++ va_pl L M_4) := hD
  have hFc : ∀ q, va_A ([] ++ va_pl L M_4) H_2.size q → A q := pg_free hDc hS hA
  refine va_calll (va_runV (As := [.long k3]) (rest := [.long k3, .ref k1]) ⟨hx, hb, hml, hown, hg⟩ (s_X7_cut l D cy K L M_4 H_2.size v1_2 k3  hW h1_2) (cwV 1 hg (gV wd_243 wd_162 wd_163 wd_148 wd_164) rfl rfl rfl (by decide +kernel) ⟨(Nat.le_trans (Nat.le_of_ble_eq_true rfl) hRf), (Nat.le_trans (Nat.le_of_ble_eq_true rfl) hRl)⟩) ⟨PG.blind, pg_recv hK hP h1_2.1 hM7 rfl, fun U hU hW => ⟨rfl, PG.at hPc hK hDc hN hU hW⟩⟩ rfl rfl hl.1 rfl (lv_room (Nat.le_of_ble_eq_true rfl)) dX0_shareGain_14 ⟨(Nat.le_trans (Nat.le_of_ble_eq_true rfl) hRc), (Nat.le_trans (Nat.le_of_ble_eq_true rfl) hRs)⟩) hS (fun q _ h => hFc q h) hFc (fun r_9 M_10 t H_8 locs ht hvm hw hB hz1 hk1 hS => ?_)
  obtain ⟨hW, hF2, hp_11⟩ := hw
  obtain ⟨hP1, hD1⟩ := hB
  rw [ht] at hP1
  have hP : va_P D vwCl ([] ++ va_pl L M_10) H_8 := hP1
  have hD : va_D A ([] ++ va_pl L M_10) := hD1.mono hFc
  have hM_12 : M_10 oa = (b0_7 v1_0 v1_1 v1_2 (nI v1_3) v1_4) := (hF2.at ia (by decide)).trans hM_6
  have hM_13 : M_10 v1_2 = (b7_8 v7_0 v7_1 v7_2 v7_3 v7_4 (nI v7_5)) := (hF2.at h1_2 (by decide)).trans hM7
  have hF : fr K L [7, 8, 64, 68, 69, 70, 72] M M_10 := hF.tr hF2 (by decide)
  refine lv_lsub hx hb dX0_shareGain_17 ?_
  refine lv_topl (fun f_14 ef_14 => ?_)
  obtain ⟨v16_0, v16_1, v16_2, v16_3, v16_4, v16_5, hM16, h16_0, h16_1⟩ := hW.open_8 ik1
  refine pg_put (D := D) (ci := 8) (v := .long f_14) (ty := .long) (C := RX8) (T := TX8) (N := 6) hx hb hg inG8 tyX8 tyX8_ok nmX8 hown hK hP hD hS ik1.1 hM16 rfl 5 (by decide) (hg _ wd_206) (fun _ h9 => h9) rfl (by decide +kernel) rfl rfl (Nat.le_of_ble_eq_true rfl) dX0_shareGain_18 (fun H_15 locs hP hD hS => ?_)
  obtain ⟨M_17, eM_17⟩ : ∃ M1 : Hp, M1 = va_up M_10 k1 ((b8_11 v16_0 v16_1 v16_2 v16_3 v16_4 f_14)) := ⟨_, rfl⟩
  have hP : va_P D vwCl ([] ++ va_pl L M_17) H_15 := by rw [eM_17]; exact hP
  have hD : va_D A ([] ++ va_pl L M_17) := by rw [eM_17]; exact hD
  have hW : WOK cy K L M_17 := by rw [eM_17]; exact hW.up_8 ik1 ⟨v16_0, v16_1, v16_2, v16_3, v16_4, f_14, rfl, h16_0, h16_1⟩
  have hF : fr K L [7, 8, 64, 68, 69, 70, 72] M M_17 := by rw [eM_17]; exact hF.up ik1 (by decide)
  have hM_18 : M_17 k1 = (b8_11 v16_0 v16_1 v16_2 v16_3 v16_4 f_14) := by rw [eM_17]; exact va_up_self _ _ _
  have hM_19 : M_17 oa = (b0_7 v1_0 v1_1 v1_2 (nI v1_3) v1_4) := by rw [eM_17, va_up_ne _ _ (ia.neT ik1 (by decide))]; exact hM_12
  have hM_20 : M_17 v1_2 = (b7_8 v7_0 v7_1 v7_2 v7_3 v7_4 (nI v7_5)) := by rw [eM_17, va_up_ne _ _ (h1_2.neT ik1 (by decide))]; exact hM_13
  refine lv_iconst (v := 0) hx hb dX0_shareGain_21 (by decide) ?_
  refine lv_istore (lv' := [(5, .int 0), (0, .ref oa), (1, .ref k1), (2, .ref k2), (3, .long k3)]) hx hb dX0_shareGain_22 hl (by decide) rfl (fun ls hl => ?_)
  have key_21 : ∀ (fu_23 : Nat) (v5w24 : Nat) (M_26 : Hp) (H_27 : Heap) (locs : List Loc) (ls : Array Slot), 6 - v5w24 < fu_23 → v5w24 ≤ 6 → WOK cy K L M_26 → fr K L [7, 8, 64, 68, 69, 70, 72] M M_26 → va_P D vwCl ([] ++ va_pl L M_26) H_27 → va_D A ([] ++ va_pl L M_26) → va_S A s.heap H_27 locs → lv_has ls 6 [(5, .int (nI v5w24)), (0, .ref oa), (1, .ref k1), (2, .ref k2), (3, .long k3)] → W p l e R s m ([.ref oa, .ref k1, .ref k2, .long k3] : List Value).toArray below meth c H_27 locs 0 0 Q (F0 m 24 ls []) := by
    intro fu_23
    induction fu_23 with
    | zero => intro v5w24 M_26 H_27 locs ls h; exact absurd h (Nat.not_lt_zero _)
    | succ fu_23 ih_22 =>
      intro v5w24 M_26 H_27 locs ls hfu hx_25 hW hF hP hD hS hl
      refine lv_iload hx hb dX0_shareGain_24 (lv_at hl 0 rfl) ?_
      refine lv_bipush (v := 6) hx hb dX0_shareGain_26 (by decide) ?_
      refine lv_icmp_ge (tgt := 57) hx hb dX0_shareGain_28 (by decide) (fun c_28 => ?_) (fun c_28 => ?_)
      · have hz := rfl (a := 0)
        have n_29 : 6 ≤ v5w24 := (iLE (a := 6) (b := v5w24) (by omega) (by omega)).mp c_28
        rw [hQ]
        exact W.vret hx hb hr (fun t ht hW9 => ⟨⟨M_26, rfl, ⟨hW, hF, trivial⟩, ⟨by rw [ht]; exact hP, hD⟩⟩, hS.F ht⟩) hS.2.2 dX0_shareGain_57
      · have hz := rfl (a := 0)
        have n_30 : ¬ (6 ≤ v5w24) := fun q => c_28 ((iLE (a := 6) (b := v5w24) (by omega) (by omega)).mpr q)
        refine lv_aload_n hx hb dX0_shareGain_31 rfl (lv_at hl 2 rfl) ?_
        obtain ⟨v31_0, v31_1, v31_2, v31_3, v31_4, v31_5, hM31, h31_0, h31_1⟩ := hW.open_8 ik1
        refine pg_get (D := D) (ci := 8) (v := .ref v31_1) (C := RX8) (T := TX8) (N := 6) hx hb hg inG8 hown hK hP ik1.1 hM31 rfl 1 (by decide) (hg _ wd_221) (fun _ h9 => h9) rfl dX0_shareGain_32 ?_
        refine lv_iload hx hb dX0_shareGain_35 (lv_at hl 0 rfl) ?_
        refine lv_dup2_11 hx hb dX0_shareGain_37 rfl rfl ?_
        obtain ⟨f32, hM32⟩ := hW.open_72 h31_1
        refine pg_lald hx hb hK hP h31_1.1 1 hM32 rfl (inbN v5w24 6 (by omega) (by omega)) dX0_shareGain_38 ?_
        refine lv_topl (fun f_33 ef_33 => ?_)
        refine lv_aload_n hx hb dX0_shareGain_39 rfl (lv_at hl 1 rfl) ?_
        obtain ⟨v34_0, v34_1, v34_2, v34_3, v34_4, hM34, h34_0, h34_1, h34_2, h34_3⟩ := hW.open_0 ia
        refine pg_get (D := D) (ci := 0) (v := .ref v34_2) (C := RX0) (T := TX0) (N := 5) hx hb hg inG0 hown hK hP ia.1 hM34 rfl 2 (by decide) (hg _ wd_207) (fun _ h9 => h9) rfl dX0_shareGain_40 ?_
        obtain ⟨v35_0, v35_1, v35_2, v35_3, v35_4, v35_5, hM35, h35_0, h35_1, h35_2, h35_3, h35_4, h35_5⟩ := hW.open_7 h34_2
        refine pg_get (D := D) (ci := 7) (v := .ref v35_2) (C := RX7) (T := TX7) (N := 6) hx hb hg inG7 hown hK hP h34_2.1 hM35 rfl 2 (by decide) (hg _ wd_244) (fun _ h9 => h9) rfl dX0_shareGain_43 ?_
        refine lv_iload hx hb dX0_shareGain_46 (lv_at hl 0 rfl) ?_
        obtain ⟨f36, hM36⟩ := hW.open_69 h35_2
        refine pg_lald hx hb hK hP h35_2.1 1 hM36 rfl (inbN v5w24 100 (by omega) (by omega)) dX0_shareGain_48 ?_
        refine lv_topl (fun f_37 ef_37 => ?_)
        refine lv_ladd hx hb dX0_shareGain_49 ?_
        refine lv_topl (fun f_38 ef_38 => ?_)
        refine pg_last hx hb hK hP hD hS h31_1.1 1 hM32 rfl (inbN v5w24 6 (by omega) (by omega)) dX0_shareGain_50 (fun H_39 locs hP hD hS => ?_)
        obtain ⟨M_40, eM_40⟩ : ∃ M1 : Hp, M1 = va_up M_26 v31_1 (.inl (cy 15, 6, .inr (.inl (vp_updL f32 ((nI v5w24) : Int32).toNatClampNeg f_38)))) := ⟨_, rfl⟩
        have hP : va_P D vwCl ([] ++ va_pl L M_40) H_39 := by rw [eM_40]; exact hP
        have hD : va_D A ([] ++ va_pl L M_40) := by rw [eM_40]; exact hD
        have hW : WOK cy K L M_40 := by rw [eM_40]; exact hW.up_72 h31_1 ⟨_, rfl⟩
        have hF : fr K L [7, 8, 64, 68, 69, 70, 72] M M_40 := by rw [eM_40]; exact hF.up h31_1 (by decide)
        have hM_41 : M_40 v31_1 = .inl (cy 15, 6, .inr (.inl (vp_updL f32 ((nI v5w24) : Int32).toNatClampNeg f_38))) := by rw [eM_40]; exact va_up_self _ _ _
        have hM_42 : M_40 k1 = (b8_11 v31_0 v31_1 v31_2 v31_3 v31_4 v31_5) := by rw [eM_40, va_up_ne _ _ (ik1.neT h31_1 (by decide))]; exact hM31
        have hM_43 : M_40 oa = (b0_7 v34_0 v34_1 v34_2 (nI v34_3) v34_4) := by rw [eM_40, va_up_ne _ _ (ia.neT h31_1 (by decide))]; exact hM34
        have hM_44 : M_40 v34_2 = (b7_8 v35_0 v35_1 v35_2 v35_3 v35_4 (nI v35_5)) := by rw [eM_40, va_up_ne _ _ (h34_2.neT h31_1 (by decide))]; exact hM35
        have hM_45 : M_40 v35_2 = .inl (cy 15, 100, .inr (.inl (f36))) := by rw [eM_40, va_up_ne _ _ (h35_2.neT h31_1 (by decide))]; exact hM36
        obtain ⟨f_46, ef_46⟩ : ∃ f : Nat → Int64, f = vp_updL f32 ((nI v5w24) : Int32).toNatClampNeg f_38 := ⟨_, rfl⟩
        rw [← ef_46] at hM_41
        clear ef_46
        refine lv_iinc (v := (nI (v5w24 + 1))) (lv' := [(5, .int (nI (v5w24 + 1))), (0, .ref oa), (1, .ref k1), (2, .ref k2), (3, .long k3)]) hx hb dX0_shareGain_51 hl (k := 0) rfl (nI_1 v5w24) (by decide) rfl (fun ls hl => ?_)
        refine lv_goto (tgt := 24) hx hb dX0_shareGain_54 (by decide) ?_
        exact ih_22 (v5w24 + 1) M_40 H_39 _ _ (by omega) (by omega) hW hF hP hD hS (lv_sub hl [0, 1, 2, 3, 4] rfl)
  exact key_21 (6 - 0 + 1) 0 M_17 H_15 _ _ (by omega) (by omega) hW hF hP hD hS (lv_sub hl [0, 1, 2, 3, 4] rfl)
set_option maxHeartbeats 4000000 in
set_option maxRecDepth 100000 in
theorem s_X0_shareLack (l : Launch) (D : va_G) (cy : Nat → ClassId) (K : Kp) (L : List Nat) (M : Hp) (sz : Nat) (oa : Nat) (k1 : Nat) (k2 : Nat) (k3 : Int64) (hW : WOK cy K L M) (ia : isk K L oa 0 0) (ik1 : isk K L k1 8 0) (ik2 : isk K L k2 6 0) : Met l yX0_shareLack (wsM yX0_shareLack cX0_shareLack 7 none) ({ frames := 3, cells := 0, slots := 0, locals := 82 }) (va_Pc [.ref oa, .ref k1, .ref k2, .long k3] (PG D cy [] L M sz)) (va_Qv (fun (M9 : Hp) => WOK cy K L M9 ∧ fr K L [7, 8, 9, 64, 68, 69, 70, 71, 72] M M9 ∧ fT 9 K L [11] M M9 ∧ (True)) (fun M9 t => PQ D [] L M9 (va_A ([] ++ va_pl L M) sz) t) (va_A ([] ++ va_pl L M) sz)) 0 0 (va_A ([] ++ va_pl L M) sz) := by
  refine Met.ofW (cc := cX0_shareLack) (maxL := 7) (ret := none) (by decide) rfl ?_
  intro p e s m args below meth c s₁ B hml hv
  obtain ⟨rfl, hsz, hP, hK, hD0, hN⟩ := hv
  have hx := B.exec
  have hb := B.bytes
  have hr := B.returns
  have hts := atoms_spec (ws := (wsM yX0_shareLack cX0_shareLack 7 none)) B.pre
  have hg : ∀ w ∈ lw_good, w.before _ s = true := fun w h => hts w (List.mem_cons_of_mem _ h)
  have hown : s.vm.findClass RX0 = some m.cls := findClass_of_methodNamed B.named
  have hlocks := B.notSynchronized
  subst hsz
  have hD := hD0.self (sz := s.heap.size)
  generalize hAe : va_A ([] ++ va_pl L M) s.heap.size = A at hD ⊢
  have hA : ∀ q : Nat, s.heap.size ≤ q → A q := fun q h => by rw [← hAe]; exact Or.inr h
  have hS : va_S A s.heap s.heap [] := va_S.rf
  have hl := lv_entry ([.ref oa, .ref k1, .ref k2, .long k3]) (n := 7) (Nat.le_of_ble_eq_true rfl)
  rw [lg_entry_eq]
  generalize (lg_sl ([.ref oa, .ref k1, .ref k2, .long k3]) ++ List.replicate (7 - (lg_sl ([.ref oa, .ref k1, .ref k2, .long k3])).length) Slot.unset).toArray = ls at hl ⊢
  refine W.nameQ (fun Q hQ => ?_)
  refine W.nameR (fun R hR => ?_)
  have hRf : 3 ≤ R.frames := by rw [hR]; exact Nat.le_of_ble_eq_true rfl
  have hRl : 82 ≤ R.locals := by rw [hR]; exact Nat.le_of_ble_eq_true rfl
  have hRc : 0 ≤ R.cells := by rw [hR]; exact Nat.le_of_ble_eq_true rfl
  have hRs : 0 ≤ R.slots := by rw [hR]; exact Nat.le_of_ble_eq_true rfl
  have hF : fr K L [7, 8, 9, 64, 68, 69, 70, 71, 72] M M := fr.rf
  have hT9 : fT 9 K L [11] M M := fT.rf
  have hl : lv_has ls 7 [(0, .ref oa), (1, .ref k1), (2, .ref k2), (3, .long k3)] := hl
  refine lv_aload_n hx hb dX0_shareLack_0 rfl (lv_at hl 0 rfl) ?_
  refine lv_aload_n hx hb dX0_shareLack_1 rfl (lv_at hl 1 rfl) ?_
  refine lv_aload_n hx hb dX0_shareLack_2 rfl (lv_at hl 2 rfl) ?_
  refine lv_iconst (v := 3) hx hb dX0_shareLack_3 (by decide) ?_
  obtain ⟨v1_0, v1_1, v1_2, v1_3, v1_4, hM1, h1_0, h1_1, h1_2, h1_3⟩ := hW.open_0 ia
  have hPc : va_P D vwCl ([] ++ va_pl L M) s.heap := hP
  have hDc : va_D A ([] ++ va_pl L M) := hD
  have hFc : ∀ q, va_A ([] ++ va_pl L M) s.heap.size q → A q := pg_free hDc hS hA
  refine va_callv (va_runV (As := [.ref k1, .ref k2, .int 3]) (rest := []) ⟨hx, hb, hml, hown, hg⟩ (s_X0_weigh l D cy K L M s.heap.size oa k1 k2 3  hW ia ik1 ik2) (cwV 3 hg (gV wd_239 wd_240 wd_241 wd_204 wd_242) rfl rfl rfl (by decide +kernel) ⟨(Nat.le_trans (Nat.le_of_ble_eq_true rfl) hRf), (Nat.le_trans (Nat.le_of_ble_eq_true rfl) hRl)⟩) ⟨PG.blind, pg_recv hK hP ia.1 hM1 rfl, fun U hU hW => ⟨rfl, PG.at hPc hK hDc hN hU hW⟩⟩ rfl rfl hl.1 rfl (lv_room (Nat.le_of_ble_eq_true rfl)) dX0_shareLack_4 ⟨(Nat.le_trans (Nat.le_of_ble_eq_true rfl) hRc), (Nat.le_trans (Nat.le_of_ble_eq_true rfl) hRs)⟩) hS (fun q _ h => hFc q h) hFc (fun M_4 t H_2 locs ht hvm hw hB hz1 hk1 hS => ?_)
  obtain ⟨hW, hF2, hp_5⟩ := hw
  obtain ⟨hP1, hD1⟩ := hB
  rw [ht] at hP1
  have hP : va_P D vwCl ([] ++ va_pl L M_4) H_2 := hP1
  have hD : va_D A ([] ++ va_pl L M_4) := hD1.mono hFc
  have hM_6 : M_4 oa = (b0_7 v1_0 v1_1 v1_2 (nI v1_3) v1_4) := (hF2.at ia (by decide)).trans hM1
  have hF : fr K L [7, 8, 9, 64, 68, 69, 70, 71, 72] M M_4 := hF.tr hF2 (by decide)
  have hT9 : fT 9 K L [11] M M_4 := hT9.frr hF2 (by decide)
  refine lv_aload_n hx hb dX0_shareLack_7 rfl (lv_at hl 1 rfl) ?_
  refine lv_aload_n hx hb dX0_shareLack_8 rfl (lv_at hl 0 rfl) ?_
  refine pg_get (D := D) (ci := 0) (v := .ref v1_2) (C := RX0) (T := TX0) (N := 5) hx hb hg inG0 hown hK hP ia.1 hM_6 rfl 2 (by decide) (hg _ wd_207) (fun _ h9 => h9) rfl dX0_shareLack_9 ?_
  refine lv_lload_n hx hb dX0_shareLack_12 rfl (lv_at hl 3 rfl) ?_
  obtain ⟨v7_0, v7_1, v7_2, v7_3, v7_4, v7_5, hM7, h7_0, h7_1, h7_2, h7_3, h7_4, h7_5⟩ := hW.open_7 h1_2
  have hPc : va_P D vwCl ([] ++ va_pl L M_4) H_2 := hP
  have hDc : va_D A ([] ++ va_pl L M_4) := hD
  have hFc : ∀ q, va_A ([] ++ va_pl L M_4) H_2.size q → A q := pg_free hDc hS hA
  refine va_calll (va_runV (As := [.long k3]) (rest := [.ref k1]) ⟨hx, hb, hml, hown, hg⟩ (s_X7_shareLoss l D cy K L M_4 H_2.size v1_2 k3  hW h1_2) (cwV 1 hg (gV wd_245 wd_246 wd_247 wd_148 wd_248) rfl rfl rfl (by decide +kernel) ⟨(Nat.le_trans (Nat.le_of_ble_eq_true rfl) hRf), (Nat.le_trans (Nat.le_of_ble_eq_true rfl) hRl)⟩) ⟨PG.blind, pg_recv hK hP h1_2.1 hM7 rfl, fun U hU hW => ⟨rfl, PG.at hPc hK hDc hN hU hW⟩⟩ rfl rfl hl.1 rfl (lv_room (Nat.le_of_ble_eq_true rfl)) dX0_shareLack_13 ⟨(Nat.le_trans (Nat.le_of_ble_eq_true rfl) hRc), (Nat.le_trans (Nat.le_of_ble_eq_true rfl) hRs)⟩) hS (fun q _ h => hFc q h) hFc (fun r_9 M_10 t H_8 locs ht hvm hw hB hz1 hk1 hS => ?_)
  obtain ⟨hW, hF2, hp_11⟩ := hw
  obtain ⟨hP1, hD1⟩ := hB
  rw [ht] at hP1
  have hP : va_P D vwCl ([] ++ va_pl L M_10) H_8 := hP1
  have hD : va_D A ([] ++ va_pl L M_10) := hD1.mono hFc
  have hM_12 : M_10 oa = (b0_7 v1_0 v1_1 v1_2 (nI v1_3) v1_4) := (hF2.at ia (by decide)).trans hM_6
  have hM_13 : M_10 v1_2 = (b7_8 v7_0 v7_1 v7_2 v7_3 v7_4 (nI v7_5)) := (hF2.at h1_2 (by decide)).trans hM7
  have hF : fr K L [7, 8, 9, 64, 68, 69, 70, 71, 72] M M_10 := hF.tr hF2 (by decide)
  have hT9 : fT 9 K L [11] M M_10 := hT9.frr hF2 (by decide)
  refine lv_lneg hx hb dX0_shareLack_16 ?_
  refine lv_topl (fun f_14 ef_14 => ?_)
  obtain ⟨v16_0, v16_1, v16_2, v16_3, v16_4, v16_5, hM16, h16_0, h16_1⟩ := hW.open_8 ik1
  refine pg_put (D := D) (ci := 8) (v := .long f_14) (ty := .long) (C := RX8) (T := TX8) (N := 6) hx hb hg inG8 tyX8 tyX8_ok nmX8 hown hK hP hD hS ik1.1 hM16 rfl 5 (by decide) (hg _ wd_206) (fun _ h9 => h9) rfl (by decide +kernel) rfl rfl (Nat.le_of_ble_eq_true rfl) dX0_shareLack_17 (fun H_15 locs hP hD hS => ?_)
  obtain ⟨M_17, eM_17⟩ : ∃ M1 : Hp, M1 = va_up M_10 k1 ((b8_11 v16_0 v16_1 v16_2 v16_3 v16_4 f_14)) := ⟨_, rfl⟩
  have hP : va_P D vwCl ([] ++ va_pl L M_17) H_15 := by rw [eM_17]; exact hP
  have hD : va_D A ([] ++ va_pl L M_17) := by rw [eM_17]; exact hD
  have hW : WOK cy K L M_17 := by rw [eM_17]; exact hW.up_8 ik1 ⟨v16_0, v16_1, v16_2, v16_3, v16_4, f_14, rfl, h16_0, h16_1⟩
  have hF : fr K L [7, 8, 9, 64, 68, 69, 70, 71, 72] M M_17 := by rw [eM_17]; exact hF.up ik1 (by decide)
  have hT9 : fT 9 K L [11] M M_17 := by rw [eM_17]; exact hT9.ne ik1 (by decide)
  have hM_18 : M_17 k1 = (b8_11 v16_0 v16_1 v16_2 v16_3 v16_4 f_14) := by rw [eM_17]; exact va_up_self _ _ _
  have hM_19 : M_17 oa = (b0_7 v1_0 v1_1 v1_2 (nI v1_3) v1_4) := by rw [eM_17, va_up_ne _ _ (ia.neT ik1 (by decide))]; exact hM_12
  have hM_20 : M_17 v1_2 = (b7_8 v7_0 v7_1 v7_2 v7_3 v7_4 (nI v7_5)) := by rw [eM_17, va_up_ne _ _ (h1_2.neT ik1 (by decide))]; exact hM_13
  refine lv_iconst (v := 0) hx hb dX0_shareLack_20 (by decide) ?_
  refine lv_istore (lv' := [(5, .int 0), (0, .ref oa), (1, .ref k1), (2, .ref k2), (3, .long k3)]) hx hb dX0_shareLack_21 hl (by decide) rfl (fun ls hl => ?_)
  have key_21 : ∀ (fu_23 : Nat) (v5w24 : Nat) (M_26 : Hp) (H_27 : Heap) (locs : List Loc) (ls : Array Slot), 6 - v5w24 < fu_23 → v5w24 ≤ 6 → WOK cy K L M_26 → fr K L [7, 8, 9, 64, 68, 69, 70, 71, 72] M M_26 → fT 9 K L [11] M M_26 → va_P D vwCl ([] ++ va_pl L M_26) H_27 → va_D A ([] ++ va_pl L M_26) → va_S A s.heap H_27 locs → lv_has ls 7 [(5, .int (nI v5w24)), (0, .ref oa), (1, .ref k1), (2, .ref k2), (3, .long k3)] → W p l e R s m ([.ref oa, .ref k1, .ref k2, .long k3] : List Value).toArray below meth c H_27 locs 0 0 Q (F0 m 23 ls []) := by
    intro fu_23
    induction fu_23 with
    | zero => intro v5w24 M_26 H_27 locs ls h; exact absurd h (Nat.not_lt_zero _)
    | succ fu_23 ih_22 =>
      intro v5w24 M_26 H_27 locs ls hfu hx_25 hW hF hT9 hP hD hS hl
      refine lv_iload hx hb dX0_shareLack_23 (lv_at hl 0 rfl) ?_
      refine lv_bipush (v := 6) hx hb dX0_shareLack_25 (by decide) ?_
      refine lv_icmp_ge (tgt := 90) hx hb dX0_shareLack_27 (by decide) (fun c_28 => ?_) (fun c_28 => ?_)
      · have hz := rfl (a := 0)
        have n_29 : 6 ≤ v5w24 := (iLE (a := 6) (b := v5w24) (by omega) (by omega)).mp c_28
        rw [hQ]
        exact W.vret hx hb hr (fun t ht hW9 => ⟨⟨M_26, rfl, ⟨hW, hF, hT9, trivial⟩, ⟨by rw [ht]; exact hP, hD⟩⟩, hS.F ht⟩) hS.2.2 dX0_shareLack_90
      · have hz := rfl (a := 0)
        have n_30 : ¬ (6 ≤ v5w24) := fun q => c_28 ((iLE (a := 6) (b := v5w24) (by omega) (by omega)).mpr q)
        refine lv_aload_n hx hb dX0_shareLack_30 rfl (lv_at hl 2 rfl) ?_
        obtain ⟨v31_0, v31_1, v31_2, v31_3, v31_4, v31_5, hM31, h31_0, h31_1⟩ := hW.open_8 ik1
        refine pg_get (D := D) (ci := 8) (v := .ref v31_0) (C := RX8) (T := TX8) (N := 6) hx hb hg inG8 hown hK hP ik1.1 hM31 rfl 0 (by decide) (hg _ wd_212) (fun _ h9 => h9) rfl dX0_shareLack_31 ?_
        refine lv_iload hx hb dX0_shareLack_34 (lv_at hl 0 rfl) ?_
        obtain ⟨f32, hM32, hf32⟩ := hW.open_65 h31_0
        have hi_33 : vp_in (nI v5w24) 6 := (inbN v5w24 6 (by omega) (by omega))
        refine pg_aldq hx hb hK hP h31_0.1 8 hM32 rfl hi_33 dX0_shareLack_36 ?_
        obtain ⟨q_34, ho_35⟩ : ∃ q : Option Nat, q = f32 ((nI v5w24) : Int32).toNatClampNeg := ⟨_, rfl⟩
        rw [← ho_35]
        have hq_36 : iskN K L q_34 9 0 := by rw [ho_35]; exact hf32 _ (vp_lt hi_33)
        rcases q_34 with _ | bq_34
        · have hz := rfl (a := 0)
          refine lv_astoreN (lv' := [(6, .null), (5, .int (nI v5w24)), (0, .ref oa), (1, .ref k1), (2, .ref k2), (3, .long k3)]) hx hb dX0_shareLack_37 hl (by decide) rfl (fun ls hl => ?_)
          refine lv_aloadN hx hb dX0_shareLack_39 (lv_at hl 0 rfl) ?_
          refine lv_ifnullN (tgt := 84) hx hb dX0_shareLack_41 (by decide) ?_
          refine lv_iinc (v := (nI (v5w24 + 1))) (lv' := [(5, .int (nI (v5w24 + 1))), (6, .null), (0, .ref oa), (1, .ref k1), (2, .ref k2), (3, .long k3)]) hx hb dX0_shareLack_84 hl (k := 1) rfl (nI_1 v5w24) (by decide) rfl (fun ls hl => ?_)
          refine lv_goto (tgt := 23) hx hb dX0_shareLack_87 (by decide) ?_
          exact ih_22 (v5w24 + 1) M_26 H_27 _ _ (by omega) (by omega) hW hF hT9 hP hD hS (lv_sub hl [0, 2, 3, 4, 5] rfl)
        · have hb_37 := hq_36 bq_34 rfl
          refine lv_astore (lv' := [(6, .ref bq_34), (5, .int (nI v5w24)), (0, .ref oa), (1, .ref k1), (2, .ref k2), (3, .long k3)]) hx hb dX0_shareLack_37 hl (by decide) rfl (fun ls hl => ?_)
          refine lv_aload hx hb dX0_shareLack_39 (lv_at hl 0 rfl) ?_
          refine lv_ifnull hx hb dX0_shareLack_41 ?_
          refine lv_aload_n hx hb dX0_shareLack_44 rfl (lv_at hl 3 rfl) ?_
          refine pg_get (D := D) (ci := 8) (v := .ref v31_1) (C := RX8) (T := TX8) (N := 6) hx hb hg inG8 hown hK hP ik1.1 hM31 rfl 1 (by decide) (hg _ wd_221) (fun _ h9 => h9) rfl dX0_shareLack_45 ?_
          refine lv_iload hx hb dX0_shareLack_48 (lv_at hl 1 rfl) ?_
          refine lv_dup2_11 hx hb dX0_shareLack_50 rfl rfl ?_
          obtain ⟨f38, hM38⟩ := hW.open_72 h31_1
          refine pg_lald hx hb hK hP h31_1.1 1 hM38 rfl (inbN v5w24 6 (by omega) (by omega)) dX0_shareLack_51 ?_
          refine lv_topl (fun f_39 ef_39 => ?_)
          refine lv_aload_n hx hb dX0_shareLack_52 rfl (lv_at hl 2 rfl) ?_
          obtain ⟨v40_0, v40_1, v40_2, v40_3, v40_4, hM40, h40_0, h40_1, h40_2, h40_3⟩ := hW.open_0 ia
          refine pg_get (D := D) (ci := 0) (v := .ref v40_2) (C := RX0) (T := TX0) (N := 5) hx hb hg inG0 hown hK hP ia.1 hM40 rfl 2 (by decide) (hg _ wd_207) (fun _ h9 => h9) rfl dX0_shareLack_53 ?_
          obtain ⟨v41_0, v41_1, v41_2, v41_3, v41_4, v41_5, hM41, h41_0, h41_1, h41_2, h41_3, h41_4, h41_5⟩ := hW.open_7 h40_2
          refine pg_get (D := D) (ci := 7) (v := .ref v41_2) (C := RX7) (T := TX7) (N := 6) hx hb hg inG7 hown hK hP h40_2.1 hM41 rfl 2 (by decide) (hg _ wd_244) (fun _ h9 => h9) rfl dX0_shareLack_56 ?_
          refine lv_iload hx hb dX0_shareLack_59 (lv_at hl 1 rfl) ?_
          obtain ⟨f42, hM42⟩ := hW.open_69 h41_2
          refine pg_lald hx hb hK hP h41_2.1 1 hM42 rfl (inbN v5w24 100 (by omega) (by omega)) dX0_shareLack_61 ?_
          refine lv_topl (fun f_43 ef_43 => ?_)
          refine lv_lsub hx hb dX0_shareLack_62 ?_
          refine lv_topl (fun f_44 ef_44 => ?_)
          refine pg_last hx hb hK hP hD hS h31_1.1 1 hM38 rfl (inbN v5w24 6 (by omega) (by omega)) dX0_shareLack_63 (fun H_45 locs hP hD hS => ?_)
          obtain ⟨M_46, eM_46⟩ : ∃ M1 : Hp, M1 = va_up M_26 v31_1 (.inl (cy 15, 6, .inr (.inl (vp_updL f38 ((nI v5w24) : Int32).toNatClampNeg f_44)))) := ⟨_, rfl⟩
          have hP : va_P D vwCl ([] ++ va_pl L M_46) H_45 := by rw [eM_46]; exact hP
          have hD : va_D A ([] ++ va_pl L M_46) := by rw [eM_46]; exact hD
          have hW : WOK cy K L M_46 := by rw [eM_46]; exact hW.up_72 h31_1 ⟨_, rfl⟩
          have hF : fr K L [7, 8, 9, 64, 68, 69, 70, 71, 72] M M_46 := by rw [eM_46]; exact hF.up h31_1 (by decide)
          have hT9 : fT 9 K L [11] M M_46 := by rw [eM_46]; exact hT9.ne h31_1 (by decide)
          have hM_47 : M_46 v31_1 = .inl (cy 15, 6, .inr (.inl (vp_updL f38 ((nI v5w24) : Int32).toNatClampNeg f_44))) := by rw [eM_46]; exact va_up_self _ _ _
          have hM_48 : M_46 k1 = (b8_11 v31_0 v31_1 v31_2 v31_3 v31_4 v31_5) := by rw [eM_46, va_up_ne _ _ (ik1.neT h31_1 (by decide))]; exact hM31
          have hM_49 : M_46 v31_0 = .inl (cy 22, 6, .inr (.inr (.inr (.inr (f32))))) := by rw [eM_46, va_up_ne _ _ (h31_0.neT h31_1 (by decide))]; exact hM32
          have hM_50 : M_46 oa = (b0_7 v40_0 v40_1 v40_2 (nI v40_3) v40_4) := by rw [eM_46, va_up_ne _ _ (ia.neT h31_1 (by decide))]; exact hM40
          have hM_51 : M_46 v40_2 = (b7_8 v41_0 v41_1 v41_2 v41_3 v41_4 (nI v41_5)) := by rw [eM_46, va_up_ne _ _ (h40_2.neT h31_1 (by decide))]; exact hM41
          have hM_52 : M_46 v41_2 = .inl (cy 15, 100, .inr (.inl (f42))) := by rw [eM_46, va_up_ne _ _ (h41_2.neT h31_1 (by decide))]; exact hM42
          obtain ⟨f_53, ef_53⟩ : ∃ f : Nat → Int64, f = vp_updL f38 ((nI v5w24) : Int32).toNatClampNeg f_44 := ⟨_, rfl⟩
          rw [← ef_53] at hM_47
          clear ef_53
          refine lv_aload hx hb dX0_shareLack_64 (lv_at hl 0 rfl) ?_
          refine lv_dup hx hb dX0_shareLack_66 rfl ?_
          obtain ⟨v54_0, v54_1, v54_2, v54_3, v54_4, v54_5, v54_6, v54_7, v54_8, v54_9, v54_10, v54_11, v54_12, v54_13, v54_14, v54_15, hM54, h54_0, h54_1, h54_4, h54_8⟩ := hW.open_9 hb_37
          refine pg_get (D := D) (ci := 9) (v := .long v54_11) (C := RX9) (T := TX9) (N := 16) hx hb hg inG9 hown hK hP hb_37.1 hM54 rfl 11 (by decide) (hg _ wd_249) (fun _ h9 => h9) rfl dX0_shareLack_67 ?_
          refine lv_aload_n hx hb dX0_shareLack_70 rfl (lv_at hl 2 rfl) ?_
          refine pg_get (D := D) (ci := 0) (v := .ref v40_2) (C := RX0) (T := TX0) (N := 5) hx hb hg inG0 hown hK hP ia.1 hM_50 rfl 2 (by decide) (hg _ wd_207) (fun _ h9 => h9) rfl dX0_shareLack_71 ?_
          refine pg_get (D := D) (ci := 7) (v := .ref v41_2) (C := RX7) (T := TX7) (N := 6) hx hb hg inG7 hown hK hP h40_2.1 hM_51 rfl 2 (by decide) (hg _ wd_244) (fun _ h9 => h9) rfl dX0_shareLack_74 ?_
          refine lv_iload hx hb dX0_shareLack_77 (lv_at hl 1 rfl) ?_
          refine pg_lald hx hb hK hP h41_2.1 1 hM_52 rfl (inbN v5w24 100 (by omega) (by omega)) dX0_shareLack_79 ?_
          refine lv_topl (fun f_55 ef_55 => ?_)
          refine lv_ladd hx hb dX0_shareLack_80 ?_
          refine lv_topl (fun f_56 ef_56 => ?_)
          refine pg_put (D := D) (ci := 9) (v := .long f_56) (ty := .long) (C := RX9) (T := TX9) (N := 16) hx hb hg inG9 tyX9 tyX9_ok nmX9 hown hK hP hD hS hb_37.1 hM54 rfl 11 (by decide) (hg _ wd_249) (fun _ h9 => h9) rfl (by decide +kernel) rfl rfl (Nat.le_of_ble_eq_true rfl) dX0_shareLack_81 (fun H_57 locs hP hD hS => ?_)
          obtain ⟨M_58, eM_58⟩ : ∃ M1 : Hp, M1 = va_up M_46 bq_34 ((b9_9 (nI v54_0) v54_1 v54_2 v54_3 v54_4 v54_5 v54_6 v54_7 v54_8 v54_9 v54_10 f_56 v54_12 v54_13 v54_14 v54_15)) := ⟨_, rfl⟩
          have hP : va_P D vwCl ([] ++ va_pl L M_58) H_57 := by rw [eM_58]; exact hP
          have hD : va_D A ([] ++ va_pl L M_58) := by rw [eM_58]; exact hD
          have hW : WOK cy K L M_58 := by rw [eM_58]; exact hW.up_9 hb_37 ⟨v54_0, v54_1, v54_2, v54_3, v54_4, v54_5, v54_6, v54_7, v54_8, v54_9, v54_10, f_56, v54_12, v54_13, v54_14, v54_15, rfl, h54_0, h54_1, h54_4, h54_8⟩
          have hF : fr K L [7, 8, 9, 64, 68, 69, 70, 71, 72] M M_58 := by rw [eM_58]; exact hF.up hb_37 (by decide)
          have hT9 : fT 9 K L [11] M M_58 := by rw [eM_58]; exact hT9.up (i := 11) hM54 rfl (by decide)
          have hM_59 : M_58 bq_34 = (b9_9 (nI v54_0) v54_1 v54_2 v54_3 v54_4 v54_5 v54_6 v54_7 v54_8 v54_9 v54_10 f_56 v54_12 v54_13 v54_14 v54_15) := by rw [eM_58]; exact va_up_self _ _ _
          have hM_60 : M_58 v31_1 = .inl (cy 15, 6, .inr (.inl (f_53))) := by rw [eM_58, va_up_ne _ _ (h31_1.neT hb_37 (by decide))]; exact hM_47
          have hM_61 : M_58 k1 = (b8_11 v31_0 v31_1 v31_2 v31_3 v31_4 v31_5) := by rw [eM_58, va_up_ne _ _ (ik1.neT hb_37 (by decide))]; exact hM_48
          have hM_62 : M_58 v31_0 = .inl (cy 22, 6, .inr (.inr (.inr (.inr (f32))))) := by rw [eM_58, va_up_ne _ _ (h31_0.neT hb_37 (by decide))]; exact hM_49
          have hM_63 : M_58 oa = (b0_7 v40_0 v40_1 v40_2 (nI v40_3) v40_4) := by rw [eM_58, va_up_ne _ _ (ia.neT hb_37 (by decide))]; exact hM_50
          have hM_64 : M_58 v40_2 = (b7_8 v41_0 v41_1 v41_2 v41_3 v41_4 (nI v41_5)) := by rw [eM_58, va_up_ne _ _ (h40_2.neT hb_37 (by decide))]; exact hM_51
          have hM_65 : M_58 v41_2 = .inl (cy 15, 100, .inr (.inl (f42))) := by rw [eM_58, va_up_ne _ _ (h41_2.neT hb_37 (by decide))]; exact hM_52
          refine lv_iinc (v := (nI (v5w24 + 1))) (lv' := [(5, .int (nI (v5w24 + 1))), (6, .ref bq_34), (0, .ref oa), (1, .ref k1), (2, .ref k2), (3, .long k3)]) hx hb dX0_shareLack_84 hl (k := 1) rfl (nI_1 v5w24) (by decide) rfl (fun ls hl => ?_)
          refine lv_goto (tgt := 23) hx hb dX0_shareLack_87 (by decide) ?_
          exact ih_22 (v5w24 + 1) M_58 H_57 _ _ (by omega) (by omega) hW hF hT9 hP hD hS (lv_sub hl [0, 2, 3, 4, 5] rfl)
  exact key_21 (6 - 0 + 1) 0 M_17 H_15 _ _ (by omega) (by omega) hW hF hT9 hP hD hS (lv_sub hl [0, 1, 2, 3, 4] rfl)
set_option maxHeartbeats 4000000 in
set_option maxRecDepth 100000 in
theorem s_X0_settleStretches (l : Launch) (D : va_G) (cy : Nat → ClassId) (K : Kp) (L : List Nat) (M : Hp) (sz : Nat) (oa : Nat) (k1 : Nat) (hW : WOK cy K L M) (ia : isk K L oa 0 0) (ik1 : isk K L k1 2 0) : Met l yX0_settleStretches (wsM yX0_settleStretches cX0_settleStretches 7 none) ({ frames := 4, cells := 0, slots := 0, locals := 108 }) (va_Pc [.ref oa, .ref k1] (PG D cy [] L M sz)) (va_Qv (fun (M9 : Hp) => WOK cy K L M9 ∧ fr K L [7, 8, 9, 64, 65, 66, 68, 69, 70, 71, 72] M M9 ∧ fT 9 K L [11] M M9 ∧ (True)) (fun M9 t => PQ D [] L M9 (va_A ([] ++ va_pl L M) sz) t) (va_A ([] ++ va_pl L M) sz)) 0 0 (va_A ([] ++ va_pl L M) sz) := by
  refine Met.ofW (cc := cX0_settleStretches) (maxL := 7) (ret := none) (by decide) rfl ?_
  intro p e s m args below meth c s₁ B hml hv
  obtain ⟨rfl, hsz, hP, hK, hD0, hN⟩ := hv
  have hx := B.exec
  have hb := B.bytes
  have hr := B.returns
  have hts := atoms_spec (ws := (wsM yX0_settleStretches cX0_settleStretches 7 none)) B.pre
  have hg : ∀ w ∈ lw_good, w.before _ s = true := fun w h => hts w (List.mem_cons_of_mem _ h)
  have hown : s.vm.findClass RX0 = some m.cls := findClass_of_methodNamed B.named
  have hlocks := B.notSynchronized
  subst hsz
  have hD := hD0.self (sz := s.heap.size)
  generalize hAe : va_A ([] ++ va_pl L M) s.heap.size = A at hD ⊢
  have hA : ∀ q : Nat, s.heap.size ≤ q → A q := fun q h => by rw [← hAe]; exact Or.inr h
  have hS : va_S A s.heap s.heap [] := va_S.rf
  have hl := lv_entry ([.ref oa, .ref k1]) (n := 7) (Nat.le_of_ble_eq_true rfl)
  rw [lg_entry_eq]
  generalize (lg_sl ([.ref oa, .ref k1]) ++ List.replicate (7 - (lg_sl ([.ref oa, .ref k1])).length) Slot.unset).toArray = ls at hl ⊢
  refine W.nameQ (fun Q hQ => ?_)
  refine W.nameR (fun R hR => ?_)
  have hRf : 4 ≤ R.frames := by rw [hR]; exact Nat.le_of_ble_eq_true rfl
  have hRl : 108 ≤ R.locals := by rw [hR]; exact Nat.le_of_ble_eq_true rfl
  have hRc : 0 ≤ R.cells := by rw [hR]; exact Nat.le_of_ble_eq_true rfl
  have hRs : 0 ≤ R.slots := by rw [hR]; exact Nat.le_of_ble_eq_true rfl
  have hF : fr K L [7, 8, 9, 64, 65, 66, 68, 69, 70, 71, 72] M M := fr.rf
  have hT9 : fT 9 K L [11] M M := fT.rf
  have hl : lv_has ls 7 [(0, .ref oa), (1, .ref k1)] := hl
  refine lv_iconst (v := 0) hx hb dX0_settleStretches_0 (by decide) ?_
  refine lv_istore_n (lv' := [(2, .int 0), (0, .ref oa), (1, .ref k1)]) hx hb dX0_settleStretches_1 rfl hl (by decide) rfl (fun ls hl => ?_)
  have key_1 : ∀ (fu_3 : Nat) (v2w4 : Nat) (M_6 : Hp) (H_7 : Heap) (locs : List Loc) (ls : Array Slot), 120 - v2w4 < fu_3 → v2w4 ≤ 120 → WOK cy K L M_6 → fr K L [7, 8, 9, 64, 65, 66, 68, 69, 70, 71, 72] M M_6 → fT 9 K L [11] M M_6 → va_P D vwCl ([] ++ va_pl L M_6) H_7 → va_D A ([] ++ va_pl L M_6) → va_S A s.heap H_7 locs → lv_has ls 7 [(2, .int (nI v2w4)), (0, .ref oa), (1, .ref k1)] → W p l e R s m ([.ref oa, .ref k1] : List Value).toArray below meth c H_7 locs 0 0 Q (F0 m 2 ls []) := by
    intro fu_3
    induction fu_3 with
    | zero => intro v2w4 M_6 H_7 locs ls h; exact absurd h (Nat.not_lt_zero _)
    | succ fu_3 ih_2 =>
      intro v2w4 M_6 H_7 locs ls hfu hx_5 hW hF hT9 hP hD hS hl
      refine lv_iload_n hx hb dX0_settleStretches_2 rfl (lv_at hl 0 rfl) ?_
      refine lv_aload_n hx hb dX0_settleStretches_3 rfl (lv_at hl 1 rfl) ?_
      obtain ⟨v8_0, v8_1, v8_2, v8_3, v8_4, hM8, h8_0, h8_1, h8_2, h8_3⟩ := hW.open_0 ia
      refine pg_get (D := D) (ci := 0) (v := .int (nI v8_3)) (C := RX0) (T := TX0) (N := 5) hx hb hg inG0 hown hK hP ia.1 hM8 rfl 3 (by decide) (hg _ wd_199) (fun _ h9 => h9) rfl dX0_settleStretches_4 ?_
      refine lv_icmp_ge (tgt := 126) hx hb dX0_settleStretches_7 (by decide) (fun c_9 => ?_) (fun c_9 => ?_)
      · have hz := rfl (a := 0)
        have n_10 : v8_3 ≤ v2w4 := (iLE (a := v8_3) (b := v2w4) (by omega) (by omega)).mp c_9
        rw [hQ]
        exact W.vret hx hb hr (fun t ht hW9 => ⟨⟨M_6, rfl, ⟨hW, hF, hT9, trivial⟩, ⟨by rw [ht]; exact hP, hD⟩⟩, hS.F ht⟩) hS.2.2 dX0_settleStretches_126
      · have hz := rfl (a := 0)
        have n_11 : ¬ (v8_3 ≤ v2w4) := fun q => c_9 ((iLE (a := v8_3) (b := v2w4) (by omega) (by omega)).mpr q)
        refine lv_aload_n hx hb dX0_settleStretches_10 rfl (lv_at hl 1 rfl) ?_
        refine lv_iload_n hx hb dX0_settleStretches_11 rfl (lv_at hl 0 rfl) ?_
        have hPc : va_P D vwCl ([] ++ va_pl L M_6) H_7 := hP
        have hDc : va_D A ([] ++ va_pl L M_6) := hD
        have hFc : ∀ q, va_A ([] ++ va_pl L M_6) H_7.size q → A q := pg_free hDc hS hA
        refine va_callq (va_runV (As := [.int (nI v2w4)]) (rest := []) ⟨hx, hb, hml, hown, hg⟩ (s_X0_at l D cy K L M_6 H_7.size oa (nI v2w4)  hW ia) (cwV 1 hg (gV wd_201 wd_202 wd_203 wd_204 wd_205) rfl rfl rfl (by decide +kernel) ⟨(Nat.le_trans (Nat.le_of_ble_eq_true rfl) hRf), (Nat.le_trans (Nat.le_of_ble_eq_true rfl) hRl)⟩) ⟨PG.blind, pg_recv hK hP ia.1 hM8 rfl, fun U hU hW => ⟨rfl, PG.at hPc hK hDc hN hU hW⟩⟩ rfl rfl hl.1 rfl (lv_room (Nat.le_of_ble_eq_true rfl)) dX0_settleStretches_12 ⟨(Nat.le_trans (Nat.le_of_ble_eq_true rfl) hRc), (Nat.le_trans (Nat.le_of_ble_eq_true rfl) hRs)⟩) hS (fun q _ h => hFc q h) hFc (fun r_13 M_14 t H_12 locs ht hvm hw hB hz1 hk1 hS => ?_)
        have hp_15 := hw
        obtain ⟨hP1, hD1⟩ := hB
        rw [ht] at hP1
        have hP : va_P D vwCl ([] ++ va_pl L M_6) H_12 := hP1
        have hD : va_D A ([] ++ va_pl L M_6) := hD1.mono hFc
        rcases r_13 with _ | b_16
        · have hz := rfl (a := 0)
          refine lv_astore_nN (lv' := [(3, .null), (2, .int (nI v2w4)), (0, .ref oa), (1, .ref k1)]) hx hb dX0_settleStretches_15 rfl hl (by decide) rfl (fun ls hl => ?_)
          refine lv_aload_nN hx hb dX0_settleStretches_16 rfl (lv_at hl 0 rfl) ?_
          refine lv_ifnonnullN hx hb dX0_settleStretches_17 ?_
          refine lv_null hx hb dX0_settleStretches_20 ?_
          refine lv_goto (tgt := 32) hx hb dX0_settleStretches_21 (by decide) ?_
          refine lv_astoreN (lv' := [(4, .null), (3, .null), (2, .int (nI v2w4)), (0, .ref oa), (1, .ref k1)]) hx hb dX0_settleStretches_32 hl (by decide) rfl (fun ls hl => ?_)
          refine lv_aload_nN hx hb dX0_settleStretches_34 rfl (lv_at hl 1 rfl) ?_
          refine lv_ifnullN (tgt := 120) hx hb dX0_settleStretches_35 (by decide) ?_
          refine lv_iinc (v := (nI (v2w4 + 1))) (lv' := [(2, .int (nI (v2w4 + 1))), (4, .null), (3, .null), (0, .ref oa), (1, .ref k1)]) hx hb dX0_settleStretches_120 hl (k := 2) rfl (nI_1 v2w4) (by decide) rfl (fun ls hl => ?_)
          refine lv_goto (tgt := 2) hx hb dX0_settleStretches_123 (by decide) ?_
          exact ih_2 (v2w4 + 1) M_6 H_12 _ _ (by omega) (by omega) hW hF hT9 hP hD hS (lv_sub hl [0, 3, 4] rfl)
        · have hb_17 := hp_15 b_16 rfl
          refine lv_astore_n (lv' := [(3, .ref b_16), (2, .int (nI v2w4)), (0, .ref oa), (1, .ref k1)]) hx hb dX0_settleStretches_15 rfl hl (by decide) rfl (fun ls hl => ?_)
          refine lv_aload_n hx hb dX0_settleStretches_16 rfl (lv_at hl 0 rfl) ?_
          refine lv_ifnonnull (tgt := 24) hx hb dX0_settleStretches_17 (by decide) ?_
          refine lv_aload_n hx hb dX0_settleStretches_24 rfl (lv_at hl 3 rfl) ?_
          refine lv_aload_n hx hb dX0_settleStretches_25 rfl (lv_at hl 0 rfl) ?_
          obtain ⟨v18_0, v18_1, v18_2, v18_3, v18_4, v18_5, hM18, h18_0, h18_1⟩ := hW.open_8 hb_17
          refine pg_get (D := D) (ci := 8) (v := .int v18_2) (C := RX8) (T := TX8) (N := 6) hx hb hg inG8 hown hK hP hb_17.1 hM18 rfl 2 (by decide) (hg _ wd_228) (fun _ h9 => h9) rfl dX0_settleStretches_26 ?_
          obtain ⟨v19_0, v19_1, v19_2, v19_3, v19_4, v19_5, v19_6, v19_7, v19_8, v19_9, v19_10, v19_11, v19_12, v19_13, v19_14, v19_15, v19_16, v19_17, v19_18, v19_19, hM19, h19_3, h19_4, h19_5, h19_6, h19_7, h19_8, h19_9, h19_10, h19_11, h19_12, h19_13, h19_16, h19_17, h19_18, h19_19⟩ := hW.open_2 ik1
          have hPc : va_P D vwCl ([] ++ va_pl L M_6) H_12 := hP
          have hDc : va_D A ([] ++ va_pl L M_6) := hD
          have hFc : ∀ q, va_A ([] ++ va_pl L M_6) H_12.size q → A q := pg_free hDc hS hA
          refine va_callq (va_runV (As := [.int v18_2]) (rest := []) ⟨hx, hb, hml, hown, hg⟩ (s_X2_ruleOn l D cy K L M_6 H_12.size k1 v18_2  hW ik1) (cwV 1 hg (gV wd_250 wd_132 wd_133 wd_57 wd_134) rfl rfl rfl (by decide +kernel) ⟨(Nat.le_trans (Nat.le_of_ble_eq_true rfl) hRf), (Nat.le_trans (Nat.le_of_ble_eq_true rfl) hRl)⟩) ⟨PG.blind, pg_recv hK hP ik1.1 hM19 rfl, fun U hU hW => ⟨rfl, PG.at hPc hK hDc hN hU hW⟩⟩ rfl rfl hl.1 rfl (lv_room (Nat.le_of_ble_eq_true rfl)) dX0_settleStretches_29 ⟨(Nat.le_trans (Nat.le_of_ble_eq_true rfl) hRc), (Nat.le_trans (Nat.le_of_ble_eq_true rfl) hRs)⟩) hS (fun q _ h => hFc q h) hFc (fun r_21 M_22 t H_20 locs ht hvm hw hB hz1 hk1 hS => ?_)
          have hp_23 := hw
          obtain ⟨hP1, hD1⟩ := hB
          rw [ht] at hP1
          have hP : va_P D vwCl ([] ++ va_pl L M_6) H_20 := hP1
          have hD : va_D A ([] ++ va_pl L M_6) := hD1.mono hFc
          rcases r_21 with _ | b_24
          · have hz := rfl (a := 0)
            refine lv_astoreN (lv' := [(4, .null), (3, .ref b_16), (2, .int (nI v2w4)), (0, .ref oa), (1, .ref k1)]) hx hb dX0_settleStretches_32 hl (by decide) rfl (fun ls hl => ?_)
            refine lv_aload_n hx hb dX0_settleStretches_34 rfl (lv_at hl 1 rfl) ?_
            refine lv_ifnull hx hb dX0_settleStretches_35 ?_
            refine lv_aloadN hx hb dX0_settleStretches_38 (lv_at hl 0 rfl) ?_
            refine lv_ifnonnullN hx hb dX0_settleStretches_40 ?_
            refine lv_goto (tgt := 120) hx hb dX0_settleStretches_43 (by decide) ?_
            refine lv_iinc (v := (nI (v2w4 + 1))) (lv' := [(2, .int (nI (v2w4 + 1))), (4, .null), (3, .ref b_16), (0, .ref oa), (1, .ref k1)]) hx hb dX0_settleStretches_120 hl (k := 2) rfl (nI_1 v2w4) (by decide) rfl (fun ls hl => ?_)
            refine lv_goto (tgt := 2) hx hb dX0_settleStretches_123 (by decide) ?_
            exact ih_2 (v2w4 + 1) M_6 H_20 _ _ (by omega) (by omega) hW hF hT9 hP hD hS (lv_sub hl [0, 3, 4] rfl)
          · have hb_25 := hp_23 b_24 rfl
            refine lv_astore (lv' := [(4, .ref b_24), (3, .ref b_16), (2, .int (nI v2w4)), (0, .ref oa), (1, .ref k1)]) hx hb dX0_settleStretches_32 hl (by decide) rfl (fun ls hl => ?_)
            refine lv_aload_n hx hb dX0_settleStretches_34 rfl (lv_at hl 1 rfl) ?_
            refine lv_ifnull hx hb dX0_settleStretches_35 ?_
            refine lv_aload hx hb dX0_settleStretches_38 (lv_at hl 0 rfl) ?_
            refine lv_ifnonnull (tgt := 46) hx hb dX0_settleStretches_40 (by decide) ?_
            refine lv_aload_n hx hb dX0_settleStretches_46 rfl (lv_at hl 1 rfl) ?_
            refine lv_aload_n hx hb dX0_settleStretches_47 rfl (lv_at hl 4 rfl) ?_
            have hPc : va_P D vwCl ([] ++ va_pl L M_6) H_20 := hP
            have hDc : va_D A ([] ++ va_pl L M_6) := hD
            have hFc : ∀ q, va_A ([] ++ va_pl L M_6) H_20.size q → A q := pg_free hDc hS hA
            refine va_callv (va_runV (As := [.ref k1]) (rest := []) ⟨hx, hb, hml, hown, hg⟩ (s_X8_seatAll l D cy K L M_6 H_20.size b_16 k1  hW hb_17 ik1) (cwV 1 hg (gV wd_251 wd_252 wd_253 wd_193 wd_254) rfl rfl rfl (by decide +kernel) ⟨(Nat.le_trans (Nat.le_of_ble_eq_true rfl) hRf), (Nat.le_trans (Nat.le_of_ble_eq_true rfl) hRl)⟩) ⟨PG.blind, pg_recv hK hP hb_17.1 hM18 rfl, fun U hU hW => ⟨rfl, PG.at hPc hK hDc hN hU hW⟩⟩ rfl rfl hl.1 rfl (lv_room (Nat.le_of_ble_eq_true rfl)) dX0_settleStretches_48 ⟨(Nat.le_trans (Nat.le_of_ble_eq_true rfl) hRc), (Nat.le_trans (Nat.le_of_ble_eq_true rfl) hRs)⟩) hS (fun q _ h => hFc q h) hFc (fun M_28 t H_26 locs ht hvm hw hB hz1 hk1 hS => ?_)
            obtain ⟨hW, hF2, hp_29⟩ := hw
            obtain ⟨hP1, hD1⟩ := hB
            rw [ht] at hP1
            have hP : va_P D vwCl ([] ++ va_pl L M_28) H_26 := hP1
            have hD : va_D A ([] ++ va_pl L M_28) := hD1.mono hFc
            have hM_30 : M_28 oa = (b0_7 v8_0 v8_1 v8_2 (nI v8_3) v8_4) := (hF2.at ia (by decide)).trans hM8
            have hM_31 : M_28 b_16 = (b8_11 v18_0 v18_1 v18_2 v18_3 v18_4 v18_5) := (hF2.at hb_17 (by decide)).trans hM18
            have hM_32 : M_28 k1 = (b2_2 v19_0 v19_1 v19_2 v19_3 (nI v19_4) (nI v19_5) v19_6 v19_7 v19_8 (nI v19_9) v19_10 (nI v19_11) v19_12 v19_13 v19_14 v19_15 v19_16 v19_17 v19_18 v19_19) := (hF2.at ik1 (by decide)).trans hM19
            have hF : fr K L [7, 8, 9, 64, 65, 66, 68, 69, 70, 71, 72] M M_28 := hF.tr hF2 (by decide)
            have hT9 : fT 9 K L [11] M M_28 := hT9.frr hF2 (by decide)
            refine lv_aload_n hx hb dX0_settleStretches_51 rfl (lv_at hl 1 rfl) ?_
            refine pg_get (D := D) (ci := 8) (v := .long v18_4) (C := RX8) (T := TX8) (N := 6) hx hb hg inG8 hown hK hP hb_17.1 hM_31 rfl 4 (by decide) (hg _ wd_255) (fun _ h9 => h9) rfl dX0_settleStretches_52 ?_
            refine lv_aload_n hx hb dX0_settleStretches_55 rfl (lv_at hl 3 rfl) ?_
            refine lv_aload_n hx hb dX0_settleStretches_56 rfl (lv_at hl 1 rfl) ?_
            refine lv_aload hx hb dX0_settleStretches_57 (lv_at hl 0 rfl) ?_
            have hPc : va_P D vwCl ([] ++ va_pl L M_28) H_26 := hP
            have hDc : va_D A ([] ++ va_pl L M_28) := hD
            have hFc : ∀ q, va_A ([] ++ va_pl L M_28) H_26.size q → A q := pg_free hDc hS hA
            refine va_calll (va_runV (As := [.ref b_16, .ref b_24]) (rest := [.long v18_4]) ⟨hx, hb, hml, hown, hg⟩ (s_X0_giveWages l D cy K L M_28 H_26.size oa b_16 b_24  hW ia hb_17 hb_25) (cwV 2 hg (gV wd_256 wd_257 wd_258 wd_204 wd_259) rfl rfl rfl (by decide +kernel) ⟨(Nat.le_trans (Nat.le_of_ble_eq_true rfl) hRf), (Nat.le_trans (Nat.le_of_ble_eq_true rfl) hRl)⟩) ⟨PG.blind, pg_recv hK hP ia.1 hM_30 rfl, fun U hU hW => ⟨rfl, PG.at hPc hK hDc hN hU hW⟩⟩ rfl rfl hl.1 rfl (lv_room (Nat.le_of_ble_eq_true rfl)) dX0_settleStretches_59 ⟨(Nat.le_trans (Nat.le_of_ble_eq_true rfl) hRc), (Nat.le_trans (Nat.le_of_ble_eq_true rfl) hRs)⟩) hS (fun q _ h => hFc q h) hFc (fun r_34 M_35 t H_33 locs ht hvm hw hB hz1 hk1 hS => ?_)
            obtain ⟨hW, hF2, hp_36⟩ := hw
            obtain ⟨hP1, hD1⟩ := hB
            rw [ht] at hP1
            have hP : va_P D vwCl ([] ++ va_pl L M_35) H_33 := hP1
            have hD : va_D A ([] ++ va_pl L M_35) := hD1.mono hFc
            have hM_37 : M_35 oa = (b0_7 v8_0 v8_1 v8_2 (nI v8_3) v8_4) := (hF2.at ia (by decide)).trans hM_30
            have hM_38 : M_35 b_16 = (b8_11 v18_0 v18_1 v18_2 v18_3 v18_4 v18_5) := (hF2.at hb_17 (by decide)).trans hM_31
            have hM_39 : M_35 k1 = (b2_2 v19_0 v19_1 v19_2 v19_3 (nI v19_4) (nI v19_5) v19_6 v19_7 v19_8 (nI v19_9) v19_10 (nI v19_11) v19_12 v19_13 v19_14 v19_15 v19_16 v19_17 v19_18 v19_19) := (hF2.at ik1 (by decide)).trans hM_32
            have hF : fr K L [7, 8, 9, 64, 65, 66, 68, 69, 70, 71, 72] M M_35 := hF.tr hF2 (by decide)
            have hT9 : fT 9 K L [11] M M_35 := hT9.frr hF2 (by decide)
            refine lv_lsub hx hb dX0_settleStretches_62 ?_
            refine lv_topl (fun f_40 ef_40 => ?_)
            refine lv_aload_n hx hb dX0_settleStretches_63 rfl (lv_at hl 3 rfl) ?_
            refine lv_aload_n hx hb dX0_settleStretches_64 rfl (lv_at hl 4 rfl) ?_
            refine lv_aload_n hx hb dX0_settleStretches_65 rfl (lv_at hl 1 rfl) ?_
            refine lv_aload hx hb dX0_settleStretches_66 (lv_at hl 0 rfl) ?_
            have hPc : va_P D vwCl ([] ++ va_pl L M_35) H_33 := hP
            have hDc : va_D A ([] ++ va_pl L M_35) := hD
            have hFc : ∀ q, va_A ([] ++ va_pl L M_35) H_33.size q → A q := pg_free hDc hS hA
            refine va_calll (va_runV (As := [.ref k1, .ref b_16, .ref b_24]) (rest := [.long f_40]) ⟨hx, hb, hml, hown, hg⟩ (s_X0_giveInterest l D cy K L M_35 H_33.size oa k1 b_16 b_24  hW ia ik1 hb_17 hb_25) (cwV 3 hg (gV wd_260 wd_261 wd_262 wd_204 wd_263) rfl rfl rfl (by decide +kernel) ⟨(Nat.le_trans (Nat.le_of_ble_eq_true rfl) hRf), (Nat.le_trans (Nat.le_of_ble_eq_true rfl) hRl)⟩) ⟨PG.blind, pg_recv hK hP ia.1 hM_37 rfl, fun U hU hW => ⟨rfl, PG.at hPc hK hDc hN hU hW⟩⟩ rfl rfl hl.1 rfl (lv_room (Nat.le_of_ble_eq_true rfl)) dX0_settleStretches_68 ⟨(Nat.le_trans (Nat.le_of_ble_eq_true rfl) hRc), (Nat.le_trans (Nat.le_of_ble_eq_true rfl) hRs)⟩) hS (fun q _ h => hFc q h) hFc (fun r_42 M_43 t H_41 locs ht hvm hw hB hz1 hk1 hS => ?_)
            obtain ⟨hW, hF2, hp_44⟩ := hw
            obtain ⟨hP1, hD1⟩ := hB
            rw [ht] at hP1
            have hP : va_P D vwCl ([] ++ va_pl L M_43) H_41 := hP1
            have hD : va_D A ([] ++ va_pl L M_43) := hD1.mono hFc
            have hM_45 : M_43 oa = (b0_7 v8_0 v8_1 v8_2 (nI v8_3) v8_4) := (hF2.at ia (by decide)).trans hM_37
            have hM_46 : M_43 b_16 = (b8_11 v18_0 v18_1 v18_2 v18_3 v18_4 v18_5) := (hF2.at hb_17 (by decide)).trans hM_38
            have hM_47 : M_43 k1 = (b2_2 v19_0 v19_1 v19_2 v19_3 (nI v19_4) (nI v19_5) v19_6 v19_7 v19_8 (nI v19_9) v19_10 (nI v19_11) v19_12 v19_13 v19_14 v19_15 v19_16 v19_17 v19_18 v19_19) := (hF2.at ik1 (by decide)).trans hM_39
            have hF : fr K L [7, 8, 9, 64, 65, 66, 68, 69, 70, 71, 72] M M_43 := hF.tr hF2 (by decide)
            have hT9 : fT 9 K L [11] M M_43 := hT9.frr hF2 (by decide)
            refine lv_lsub hx hb dX0_settleStretches_71 ?_
            refine lv_topl (fun f_48 ef_48 => ?_)
            refine lv_lstore (lv' := [(5, .long f_48), (4, .ref b_24), (3, .ref b_16), (2, .int (nI v2w4)), (0, .ref oa), (1, .ref k1)]) hx hb dX0_settleStretches_72 hl (by decide) rfl (fun ls hl => ?_)
            refine lv_lload hx hb dX0_settleStretches_74 (lv_at hl 0 rfl) ?_
            refine lv_lconst (v := 0) hx hb dX0_settleStretches_76 (by decide) ?_
            refine W.lcmp hx hb dX0_settleStretches_77 ?_
            refine lv_if_le (tgt := 103) hx hb dX0_settleStretches_78 (by decide) (fun c_49 => ?_) (fun c_49 => ?_)
            · have hz := rfl (a := 0)
              have d_50 : f_48 ≤ 0 := lc_let c_49
              refine lv_lload hx hb dX0_settleStretches_103 (lv_at hl 0 rfl) ?_
              refine lv_lconst (v := 0) hx hb dX0_settleStretches_105 (by decide) ?_
              refine W.lcmp hx hb dX0_settleStretches_106 ?_
              refine lv_if_ge (tgt := 120) hx hb dX0_settleStretches_107 (by decide) (fun c_51 => ?_) (fun c_51 => ?_)
              · have hz := rfl (a := 0)
                refine lv_iinc (v := (nI (v2w4 + 1))) (lv' := [(2, .int (nI (v2w4 + 1))), (5, .long f_48), (4, .ref b_24), (3, .ref b_16), (0, .ref oa), (1, .ref k1)]) hx hb dX0_settleStretches_120 hl (k := 3) rfl (nI_1 v2w4) (by decide) rfl (fun ls hl => ?_)
                refine lv_goto (tgt := 2) hx hb dX0_settleStretches_123 (by decide) ?_
                exact ih_2 (v2w4 + 1) M_43 H_41 _ _ (by omega) (by omega) hW hF hT9 hP hD hS (lv_sub hl [0, 4, 5] rfl)
              · have hz := rfl (a := 0)
                refine lv_aload_n hx hb dX0_settleStretches_110 rfl (lv_at hl 4 rfl) ?_
                refine lv_aload_n hx hb dX0_settleStretches_111 rfl (lv_at hl 2 rfl) ?_
                refine lv_aload hx hb dX0_settleStretches_112 (lv_at hl 1 rfl) ?_
                refine lv_lload hx hb dX0_settleStretches_114 (lv_at hl 0 rfl) ?_
                refine lv_lneg hx hb dX0_settleStretches_116 ?_
                refine lv_topl (fun f_53 ef_53 => ?_)
                have hPc : va_P D vwCl ([] ++ va_pl L M_43) H_41 := hP
                have hDc : va_D A ([] ++ va_pl L M_43) := hD
                have hFc : ∀ q, va_A ([] ++ va_pl L M_43) H_41.size q → A q := pg_free hDc hS hA
                refine va_callv (va_runV (As := [.ref b_16, .ref b_24, .long f_53]) (rest := []) ⟨hx, hb, hml, hown, hg⟩ (s_X0_shareLack l D cy K L M_43 H_41.size oa b_16 b_24 f_53  hW ia hb_17 hb_25) (cwV 3 hg (gV wd_264 wd_265 wd_266 wd_204 wd_267) rfl rfl rfl (by decide +kernel) ⟨(Nat.le_trans (Nat.le_of_ble_eq_true rfl) hRf), (Nat.le_trans (Nat.le_of_ble_eq_true rfl) hRl)⟩) ⟨PG.blind, pg_recv hK hP ia.1 hM_45 rfl, fun U hU hW => ⟨rfl, PG.at hPc hK hDc hN hU hW⟩⟩ rfl rfl hl.1 rfl (lv_room (Nat.le_of_ble_eq_true rfl)) dX0_settleStretches_117 ⟨(Nat.le_trans (Nat.le_of_ble_eq_true rfl) hRc), (Nat.le_trans (Nat.le_of_ble_eq_true rfl) hRs)⟩) hS (fun q _ h => hFc q h) hFc (fun M_56 t H_54 locs ht hvm hw hB hz1 hk1 hS => ?_)
                obtain ⟨hW, hF2, gT9, hp_57⟩ := hw
                obtain ⟨hP1, hD1⟩ := hB
                rw [ht] at hP1
                have hP : va_P D vwCl ([] ++ va_pl L M_56) H_54 := hP1
                have hD : va_D A ([] ++ va_pl L M_56) := hD1.mono hFc
                have hM_58 : M_56 oa = (b0_7 v8_0 v8_1 v8_2 (nI v8_3) v8_4) := (hF2.at ia (by decide)).trans hM_45
                have hM_59 : M_56 k1 = (b2_2 v19_0 v19_1 v19_2 v19_3 (nI v19_4) (nI v19_5) v19_6 v19_7 v19_8 (nI v19_9) v19_10 (nI v19_11) v19_12 v19_13 v19_14 v19_15 v19_16 v19_17 v19_18 v19_19) := (hF2.at ik1 (by decide)).trans hM_47
                have hF : fr K L [7, 8, 9, 64, 65, 66, 68, 69, 70, 71, 72] M M_56 := hF.tr hF2 (by decide)
                have hT9 : fT 9 K L [11] M M_56 := hT9.tr gT9 (by decide)
                refine lv_iinc (v := (nI (v2w4 + 1))) (lv' := [(2, .int (nI (v2w4 + 1))), (5, .long f_48), (4, .ref b_24), (3, .ref b_16), (0, .ref oa), (1, .ref k1)]) hx hb dX0_settleStretches_120 hl (k := 3) rfl (nI_1 v2w4) (by decide) rfl (fun ls hl => ?_)
                refine lv_goto (tgt := 2) hx hb dX0_settleStretches_123 (by decide) ?_
                exact ih_2 (v2w4 + 1) M_56 H_54 _ _ (by omega) (by omega) hW hF hT9 hP hD hS (lv_sub hl [0, 4, 5] rfl)
            · have hz := rfl (a := 0)
              have d_50 : ¬ f_48 ≤ 0 := lc_lef c_49
              refine lv_aload_n hx hb dX0_settleStretches_81 rfl (lv_at hl 4 rfl) ?_
              refine lv_aload_n hx hb dX0_settleStretches_82 rfl (lv_at hl 2 rfl) ?_
              refine lv_aload hx hb dX0_settleStretches_83 (lv_at hl 1 rfl) ?_
              refine lv_lload hx hb dX0_settleStretches_85 (lv_at hl 0 rfl) ?_
              refine lv_aload_n hx hb dX0_settleStretches_87 rfl (lv_at hl 4 rfl) ?_
              refine lv_aload_n hx hb dX0_settleStretches_88 rfl (lv_at hl 2 rfl) ?_
              refine lv_aload hx hb dX0_settleStretches_89 (lv_at hl 1 rfl) ?_
              refine lv_lload hx hb dX0_settleStretches_91 (lv_at hl 0 rfl) ?_
              have hPc : va_P D vwCl ([] ++ va_pl L M_43) H_41 := hP
              have hDc : va_D A ([] ++ va_pl L M_43) := hD
              have hFc : ∀ q, va_A ([] ++ va_pl L M_43) H_41.size q → A q := pg_free hDc hS hA
              refine va_calll (va_runV (As := [.ref b_16, .ref b_24, .long f_48]) (rest := [.long f_48, .ref b_24, .ref b_16, .ref oa]) ⟨hx, hb, hml, hown, hg⟩ (s_X0_giveSums l D cy K L M_43 H_41.size oa b_16 b_24 f_48  hW ia hb_17 hb_25) (cwV 3 hg (gV wd_268 wd_269 wd_270 wd_204 wd_271) rfl rfl rfl (by decide +kernel) ⟨(Nat.le_trans (Nat.le_of_ble_eq_true rfl) hRf), (Nat.le_trans (Nat.le_of_ble_eq_true rfl) hRl)⟩) ⟨PG.blind, pg_recv hK hP ia.1 hM_45 rfl, fun U hU hW => ⟨rfl, PG.at hPc hK hDc hN hU hW⟩⟩ rfl rfl hl.1 rfl (lv_room (Nat.le_of_ble_eq_true rfl)) dX0_settleStretches_93 ⟨(Nat.le_trans (Nat.le_of_ble_eq_true rfl) hRc), (Nat.le_trans (Nat.le_of_ble_eq_true rfl) hRs)⟩) hS (fun q _ h => hFc q h) hFc (fun r_61 M_62 t H_60 locs ht hvm hw hB hz1 hk1 hS => ?_)
              obtain ⟨hW, hF2, hp_63⟩ := hw
              obtain ⟨hP1, hD1⟩ := hB
              rw [ht] at hP1
              have hP : va_P D vwCl ([] ++ va_pl L M_62) H_60 := hP1
              have hD : va_D A ([] ++ va_pl L M_62) := hD1.mono hFc
              have hM_64 : M_62 oa = (b0_7 v8_0 v8_1 v8_2 (nI v8_3) v8_4) := (hF2.at ia (by decide)).trans hM_45
              have hM_65 : M_62 b_16 = (b8_11 v18_0 v18_1 v18_2 v18_3 v18_4 v18_5) := (hF2.at hb_17 (by decide)).trans hM_46
              have hM_66 : M_62 k1 = (b2_2 v19_0 v19_1 v19_2 v19_3 (nI v19_4) (nI v19_5) v19_6 v19_7 v19_8 (nI v19_9) v19_10 (nI v19_11) v19_12 v19_13 v19_14 v19_15 v19_16 v19_17 v19_18 v19_19) := (hF2.at ik1 (by decide)).trans hM_47
              have hF : fr K L [7, 8, 9, 64, 65, 66, 68, 69, 70, 71, 72] M M_62 := hF.tr hF2 (by decide)
              have hT9 : fT 9 K L [11] M M_62 := hT9.frr hF2 (by decide)
              refine lv_lsub hx hb dX0_settleStretches_96 ?_
              refine lv_topl (fun f_67 ef_67 => ?_)
              have hPc : va_P D vwCl ([] ++ va_pl L M_62) H_60 := hP
              have hDc : va_D A ([] ++ va_pl L M_62) := hD
              have hFc : ∀ q, va_A ([] ++ va_pl L M_62) H_60.size q → A q := pg_free hDc hS hA
              refine va_callv (va_runV (As := [.ref b_16, .ref b_24, .long f_67]) (rest := []) ⟨hx, hb, hml, hown, hg⟩ (s_X0_shareGain l D cy K L M_62 H_60.size oa b_16 b_24 f_67  hW ia hb_17 hb_25) (cwV 3 hg (gV wd_272 wd_273 wd_274 wd_204 wd_275) rfl rfl rfl (by decide +kernel) ⟨(Nat.le_trans (Nat.le_of_ble_eq_true rfl) hRf), (Nat.le_trans (Nat.le_of_ble_eq_true rfl) hRl)⟩) ⟨PG.blind, pg_recv hK hP ia.1 hM_64 rfl, fun U hU hW => ⟨rfl, PG.at hPc hK hDc hN hU hW⟩⟩ rfl rfl hl.1 rfl (lv_room (Nat.le_of_ble_eq_true rfl)) dX0_settleStretches_97 ⟨(Nat.le_trans (Nat.le_of_ble_eq_true rfl) hRc), (Nat.le_trans (Nat.le_of_ble_eq_true rfl) hRs)⟩) hS (fun q _ h => hFc q h) hFc (fun M_70 t H_68 locs ht hvm hw hB hz1 hk1 hS => ?_)
              obtain ⟨hW, hF2, hp_71⟩ := hw
              obtain ⟨hP1, hD1⟩ := hB
              rw [ht] at hP1
              have hP : va_P D vwCl ([] ++ va_pl L M_70) H_68 := hP1
              have hD : va_D A ([] ++ va_pl L M_70) := hD1.mono hFc
              have hM_72 : M_70 oa = (b0_7 v8_0 v8_1 v8_2 (nI v8_3) v8_4) := (hF2.at ia (by decide)).trans hM_64
              have hM_73 : M_70 k1 = (b2_2 v19_0 v19_1 v19_2 v19_3 (nI v19_4) (nI v19_5) v19_6 v19_7 v19_8 (nI v19_9) v19_10 (nI v19_11) v19_12 v19_13 v19_14 v19_15 v19_16 v19_17 v19_18 v19_19) := (hF2.at ik1 (by decide)).trans hM_66
              have hF : fr K L [7, 8, 9, 64, 65, 66, 68, 69, 70, 71, 72] M M_70 := hF.tr hF2 (by decide)
              have hT9 : fT 9 K L [11] M M_70 := hT9.frr hF2 (by decide)
              refine lv_goto (tgt := 120) hx hb dX0_settleStretches_100 (by decide) ?_
              refine lv_iinc (v := (nI (v2w4 + 1))) (lv' := [(2, .int (nI (v2w4 + 1))), (5, .long f_48), (4, .ref b_24), (3, .ref b_16), (0, .ref oa), (1, .ref k1)]) hx hb dX0_settleStretches_120 hl (k := 3) rfl (nI_1 v2w4) (by decide) rfl (fun ls hl => ?_)
              refine lv_goto (tgt := 2) hx hb dX0_settleStretches_123 (by decide) ?_
              exact ih_2 (v2w4 + 1) M_70 H_68 _ _ (by omega) (by omega) hW hF hT9 hP hD hS (lv_sub hl [0, 4, 5] rfl)
  exact key_1 (120 - 0 + 1) 0 M s.heap _ _ (by omega) (by omega) hW hF hT9 hP hD hS (lv_sub hl [0, 1, 2] rfl)
set_option maxHeartbeats 4000000 in
set_option maxRecDepth 100000 in
theorem s_X0_bookDues (l : Launch) (D : va_G) (cy : Nat → ClassId) (K : Kp) (L : List Nat) (M : Hp) (sz : Nat) (oa : Nat) (k1 : Nat) (hW : WOK cy K L M) (ia : isk K L oa 0 0) (ik1 : isk K L k1 2 0) : Met l yX0_bookDues (wsM yX0_bookDues cX0_bookDues 6 none) ({ frames := 2, cells := 0, slots := 0, locals := 41 }) (va_Pc [.ref oa, .ref k1] (PG D cy [] L M sz)) (va_Qv (fun (M9 : Hp) => WOK cy K L M9 ∧ fr K L [9] M M9 ∧ fT 9 K L [9, 15] M M9 ∧ (True)) (fun M9 t => PQ D [] L M9 (va_A ([] ++ va_pl L M) sz) t) (va_A ([] ++ va_pl L M) sz)) 0 0 (va_A ([] ++ va_pl L M) sz) := by
  refine Met.ofW (cc := cX0_bookDues) (maxL := 6) (ret := none) (by decide) rfl ?_
  intro p e s m args below meth c s₁ B hml hv
  obtain ⟨rfl, hsz, hP, hK, hD0, hN⟩ := hv
  have hx := B.exec
  have hb := B.bytes
  have hr := B.returns
  have hts := atoms_spec (ws := (wsM yX0_bookDues cX0_bookDues 6 none)) B.pre
  have hg : ∀ w ∈ lw_good, w.before _ s = true := fun w h => hts w (List.mem_cons_of_mem _ h)
  have hown : s.vm.findClass RX0 = some m.cls := findClass_of_methodNamed B.named
  have hlocks := B.notSynchronized
  subst hsz
  have hD := hD0.self (sz := s.heap.size)
  generalize hAe : va_A ([] ++ va_pl L M) s.heap.size = A at hD ⊢
  have hA : ∀ q : Nat, s.heap.size ≤ q → A q := fun q h => by rw [← hAe]; exact Or.inr h
  have hS : va_S A s.heap s.heap [] := va_S.rf
  have hl := lv_entry ([.ref oa, .ref k1]) (n := 6) (Nat.le_of_ble_eq_true rfl)
  rw [lg_entry_eq]
  generalize (lg_sl ([.ref oa, .ref k1]) ++ List.replicate (6 - (lg_sl ([.ref oa, .ref k1])).length) Slot.unset).toArray = ls at hl ⊢
  refine W.nameQ (fun Q hQ => ?_)
  refine W.nameR (fun R hR => ?_)
  have hRf : 2 ≤ R.frames := by rw [hR]; exact Nat.le_of_ble_eq_true rfl
  have hRl : 41 ≤ R.locals := by rw [hR]; exact Nat.le_of_ble_eq_true rfl
  have hRc : 0 ≤ R.cells := by rw [hR]; exact Nat.le_of_ble_eq_true rfl
  have hRs : 0 ≤ R.slots := by rw [hR]; exact Nat.le_of_ble_eq_true rfl
  have hF : fr K L [9] M M := fr.rf
  have hT9 : fT 9 K L [9, 15] M M := fT.rf
  have hl : lv_has ls 6 [(0, .ref oa), (1, .ref k1)] := hl
  refine lv_iconst (v := 0) hx hb dX0_bookDues_0 (by decide) ?_
  refine lv_istore_n (lv' := [(2, .int 0), (0, .ref oa), (1, .ref k1)]) hx hb dX0_bookDues_1 rfl hl (by decide) rfl (fun ls hl => ?_)
  have key_1 : ∀ (fu_3 : Nat) (v2w4 : Nat) (M_6 : Hp) (H_7 : Heap) (locs : List Loc) (ls : Array Slot), 24 - v2w4 < fu_3 → v2w4 ≤ 24 → WOK cy K L M_6 → fr K L [9] M M_6 → fT 9 K L [9, 15] M M_6 → va_P D vwCl ([] ++ va_pl L M_6) H_7 → va_D A ([] ++ va_pl L M_6) → va_S A s.heap H_7 locs → lv_has ls 6 [(2, .int (nI v2w4)), (0, .ref oa), (1, .ref k1)] → W p l e R s m ([.ref oa, .ref k1] : List Value).toArray below meth c H_7 locs 0 0 Q (F0 m 2 ls []) := by
    intro fu_3
    induction fu_3 with
    | zero => intro v2w4 M_6 H_7 locs ls h; exact absurd h (Nat.not_lt_zero _)
    | succ fu_3 ih_2 =>
      intro v2w4 M_6 H_7 locs ls hfu hx_5 hW hF hT9 hP hD hS hl
      refine lv_iload_n hx hb dX0_bookDues_2 rfl (lv_at hl 0 rfl) ?_
      refine lv_aload_n hx hb dX0_bookDues_3 rfl (lv_at hl 2 rfl) ?_
      obtain ⟨v8_0, v8_1, v8_2, v8_3, v8_4, v8_5, v8_6, v8_7, v8_8, v8_9, v8_10, v8_11, v8_12, v8_13, v8_14, v8_15, v8_16, v8_17, v8_18, v8_19, hM8, h8_3, h8_4, h8_5, h8_6, h8_7, h8_8, h8_9, h8_10, h8_11, h8_12, h8_13, h8_16, h8_17, h8_18, h8_19⟩ := hW.open_2 ik1
      refine pg_get (D := D) (ci := 2) (v := .int (nI v8_9)) (C := RX2) (T := TX2) (N := 20) hx hb hg inG2 hown hK hP ik1.1 hM8 rfl 9 (by decide) (hg _ wd_278) (fun _ h9 => h9) rfl dX0_bookDues_4 ?_
      refine lv_icmp_ge (tgt := 97) hx hb dX0_bookDues_7 (by decide) (fun c_9 => ?_) (fun c_9 => ?_)
      · have hz := rfl (a := 0)
        have n_10 : v8_9 ≤ v2w4 := (iLE (a := v8_9) (b := v2w4) (by omega) (by omega)).mp c_9
        rw [hQ]
        exact W.vret hx hb hr (fun t ht hW9 => ⟨⟨M_6, rfl, ⟨hW, hF, hT9, trivial⟩, ⟨by rw [ht]; exact hP, hD⟩⟩, hS.F ht⟩) hS.2.2 dX0_bookDues_97
      · have hz := rfl (a := 0)
        have n_11 : ¬ (v8_9 ≤ v2w4) := fun q => c_9 ((iLE (a := v8_9) (b := v2w4) (by omega) (by omega)).mpr q)
        refine lv_aload_n hx hb dX0_bookDues_10 rfl (lv_at hl 2 rfl) ?_
        refine lv_iload_n hx hb dX0_bookDues_11 rfl (lv_at hl 0 rfl) ?_
        have hPc : va_P D vwCl ([] ++ va_pl L M_6) H_7 := hP
        have hDc : va_D A ([] ++ va_pl L M_6) := hD
        have hFc : ∀ q, va_A ([] ++ va_pl L M_6) H_7.size q → A q := pg_free hDc hS hA
        refine va_callq (va_runV (As := [.int (nI v2w4)]) (rest := []) ⟨hx, hb, hml, hown, hg⟩ (s_X2_tenureAt l D cy K L M_6 H_7.size k1 (nI v2w4)  hW ik1) (cwV 1 hg (gV wd_279 wd_55 wd_56 wd_57 wd_58) rfl rfl rfl (by decide +kernel) ⟨(Nat.le_trans (Nat.le_of_ble_eq_true rfl) hRf), (Nat.le_trans (Nat.le_of_ble_eq_true rfl) hRl)⟩) ⟨PG.blind, pg_recv hK hP ik1.1 hM8 rfl, fun U hU hW => ⟨rfl, PG.at hPc hK hDc hN hU hW⟩⟩ rfl rfl hl.1 rfl (lv_room (Nat.le_of_ble_eq_true rfl)) dX0_bookDues_12 ⟨(Nat.le_trans (Nat.le_of_ble_eq_true rfl) hRc), (Nat.le_trans (Nat.le_of_ble_eq_true rfl) hRs)⟩) hS (fun q _ h => hFc q h) hFc (fun r_13 M_14 t H_12 locs ht hvm hw hB hz1 hk1 hS => ?_)
        have hp_15 := hw
        obtain ⟨hP1, hD1⟩ := hB
        rw [ht] at hP1
        have hP : va_P D vwCl ([] ++ va_pl L M_6) H_12 := hP1
        have hD : va_D A ([] ++ va_pl L M_6) := hD1.mono hFc
        rcases r_13 with _ | b_16
        · have hz := rfl (a := 0)
          refine lv_astore_nN (lv' := [(3, .null), (2, .int (nI v2w4)), (0, .ref oa), (1, .ref k1)]) hx hb dX0_bookDues_15 rfl hl (by decide) rfl (fun ls hl => ?_)
          refine lv_aload_nN hx hb dX0_bookDues_16 rfl (lv_at hl 0 rfl) ?_
          refine lv_ifnonnullN hx hb dX0_bookDues_17 ?_
          refine lv_goto (tgt := 91) hx hb dX0_bookDues_20 (by decide) ?_
          refine lv_iinc (v := (nI (v2w4 + 1))) (lv' := [(2, .int (nI (v2w4 + 1))), (3, .null), (0, .ref oa), (1, .ref k1)]) hx hb dX0_bookDues_91 hl (k := 1) rfl (nI_1 v2w4) (by decide) rfl (fun ls hl => ?_)
          refine lv_goto (tgt := 2) hx hb dX0_bookDues_94 (by decide) ?_
          exact ih_2 (v2w4 + 1) M_6 H_12 _ _ (by omega) (by omega) hW hF hT9 hP hD hS (lv_sub hl [0, 2, 3] rfl)
        · have hb_17 := hp_15 b_16 rfl
          refine lv_astore_n (lv' := [(3, .ref b_16), (2, .int (nI v2w4)), (0, .ref oa), (1, .ref k1)]) hx hb dX0_bookDues_15 rfl hl (by decide) rfl (fun ls hl => ?_)
          refine lv_aload_n hx hb dX0_bookDues_16 rfl (lv_at hl 0 rfl) ?_
          refine lv_ifnonnull (tgt := 23) hx hb dX0_bookDues_17 (by decide) ?_
          refine lv_aload_n hx hb dX0_bookDues_23 rfl (lv_at hl 0 rfl) ?_
          refine lv_lconst (v := 0) hx hb dX0_bookDues_24 (by decide) ?_
          obtain ⟨v19_0, v19_1, v19_2, v19_3, v19_4, v19_5, v19_6, v19_7, v19_8, v19_9, v19_10, v19_11, v19_12, v19_13, v19_14, v19_15, hM19, h19_0, h19_1, h19_4, h19_8⟩ := hW.open_9 hb_17
          refine pg_put (D := D) (ci := 9) (v := .long 0) (ty := .long) (C := RX9) (T := TX9) (N := 16) hx hb hg inG9 tyX9 tyX9_ok nmX9 hown hK hP hD hS hb_17.1 hM19 rfl 15 (by decide) (hg _ wd_280) (fun _ h9 => h9) rfl (by decide +kernel) rfl rfl (Nat.le_of_ble_eq_true rfl) dX0_bookDues_25 (fun H_18 locs hP hD hS => ?_)
          obtain ⟨M_20, eM_20⟩ : ∃ M1 : Hp, M1 = va_up M_6 b_16 ((b9_9 (nI v19_0) v19_1 v19_2 v19_3 v19_4 v19_5 v19_6 v19_7 v19_8 v19_9 v19_10 v19_11 v19_12 v19_13 v19_14 0)) := ⟨_, rfl⟩
          have hP : va_P D vwCl ([] ++ va_pl L M_20) H_18 := by rw [eM_20]; exact hP
          have hD : va_D A ([] ++ va_pl L M_20) := by rw [eM_20]; exact hD
          have hW : WOK cy K L M_20 := by rw [eM_20]; exact hW.up_9 hb_17 ⟨v19_0, v19_1, v19_2, v19_3, v19_4, v19_5, v19_6, v19_7, v19_8, v19_9, v19_10, v19_11, v19_12, v19_13, v19_14, 0, rfl, h19_0, h19_1, h19_4, h19_8⟩
          have hF : fr K L [9] M M_20 := by rw [eM_20]; exact hF.up hb_17 (by decide)
          have hT9 : fT 9 K L [9, 15] M M_20 := by rw [eM_20]; exact hT9.up (i := 15) hM19 rfl (by decide)
          have hM_21 : M_20 b_16 = (b9_9 (nI v19_0) v19_1 v19_2 v19_3 v19_4 v19_5 v19_6 v19_7 v19_8 v19_9 v19_10 v19_11 v19_12 v19_13 v19_14 0) := by rw [eM_20]; exact va_up_self _ _ _
          have hM_22 : M_20 k1 = (b2_2 v8_0 v8_1 v8_2 v8_3 (nI v8_4) (nI v8_5) v8_6 v8_7 v8_8 (nI v8_9) v8_10 (nI v8_11) v8_12 v8_13 v8_14 v8_15 v8_16 v8_17 v8_18 v8_19) := by rw [eM_20, va_up_ne _ _ (ik1.neT hb_17 (by decide))]; exact hM8
          refine lv_iconst (v := 0) hx hb dX0_bookDues_28 (by decide) ?_
          refine lv_istore (lv' := [(4, .int 0), (3, .ref b_16), (2, .int (nI v2w4)), (0, .ref oa), (1, .ref k1)]) hx hb dX0_bookDues_29 hl (by decide) rfl (fun ls hl => ?_)
          have key_23 : ∀ (fu_25 : Nat) (v4w26 : Nat) (M_28 : Hp) (H_29 : Heap) (locs : List Loc) (ls : Array Slot), 120 - v4w26 < fu_25 → v4w26 ≤ 120 → WOK cy K L M_28 → fr K L [9] M M_28 → fT 9 K L [9, 15] M M_28 → va_P D vwCl ([] ++ va_pl L M_28) H_29 → va_D A ([] ++ va_pl L M_28) → va_S A s.heap H_29 locs → lv_has ls 6 [(4, .int (nI v4w26)), (3, .ref b_16), (2, .int (nI v2w4)), (0, .ref oa), (1, .ref k1)] → W p l e R s m ([.ref oa, .ref k1] : List Value).toArray below meth c H_29 locs 0 0 Q (F0 m 31 ls []) := by
            intro fu_25
            induction fu_25 with
            | zero => intro v4w26 M_28 H_29 locs ls h; exact absurd h (Nat.not_lt_zero _)
            | succ fu_25 ih_24 =>
              intro v4w26 M_28 H_29 locs ls hfu hx_27 hW hF hT9 hP hD hS hl
              refine lv_iload hx hb dX0_bookDues_31 (lv_at hl 0 rfl) ?_
              refine lv_aload_n hx hb dX0_bookDues_33 rfl (lv_at hl 3 rfl) ?_
              obtain ⟨v30_0, v30_1, v30_2, v30_3, v30_4, hM30, h30_0, h30_1, h30_2, h30_3⟩ := hW.open_0 ia
              refine pg_get (D := D) (ci := 0) (v := .int (nI v30_3)) (C := RX0) (T := TX0) (N := 5) hx hb hg inG0 hown hK hP ia.1 hM30 rfl 3 (by decide) (hg _ wd_199) (fun _ h9 => h9) rfl dX0_bookDues_34 ?_
              refine lv_icmp_ge (tgt := 78) hx hb dX0_bookDues_37 (by decide) (fun c_31 => ?_) (fun c_31 => ?_)
              · have hz := rfl (a := 0)
                have n_32 : v30_3 ≤ v4w26 := (iLE (a := v30_3) (b := v4w26) (by omega) (by omega)).mp c_31
                refine lv_aload_n hx hb dX0_bookDues_78 rfl (lv_at hl 1 rfl) ?_
                refine lv_dup hx hb dX0_bookDues_79 rfl ?_
                obtain ⟨v33_0, v33_1, v33_2, v33_3, v33_4, v33_5, v33_6, v33_7, v33_8, v33_9, v33_10, v33_11, v33_12, v33_13, v33_14, v33_15, hM33, h33_0, h33_1, h33_4, h33_8⟩ := hW.open_9 hb_17
                refine pg_get (D := D) (ci := 9) (v := .long v33_9) (C := RX9) (T := TX9) (N := 16) hx hb hg inG9 hown hK hP hb_17.1 hM33 rfl 9 (by decide) (hg _ wd_222) (fun _ h9 => h9) rfl dX0_bookDues_80 ?_
                refine lv_aload_n hx hb dX0_bookDues_83 rfl (lv_at hl 1 rfl) ?_
                refine pg_get (D := D) (ci := 9) (v := .long v33_15) (C := RX9) (T := TX9) (N := 16) hx hb hg inG9 hown hK hP hb_17.1 hM33 rfl 15 (by decide) (hg _ wd_280) (fun _ h9 => h9) rfl dX0_bookDues_84 ?_
                refine lv_ladd hx hb dX0_bookDues_87 ?_
                refine lv_topl (fun f_34 ef_34 => ?_)
                refine pg_put (D := D) (ci := 9) (v := .long f_34) (ty := .long) (C := RX9) (T := TX9) (N := 16) hx hb hg inG9 tyX9 tyX9_ok nmX9 hown hK hP hD hS hb_17.1 hM33 rfl 9 (by decide) (hg _ wd_222) (fun _ h9 => h9) rfl (by decide +kernel) rfl rfl (Nat.le_of_ble_eq_true rfl) dX0_bookDues_88 (fun H_35 locs hP hD hS => ?_)
                obtain ⟨M_36, eM_36⟩ : ∃ M1 : Hp, M1 = va_up M_28 b_16 ((b9_9 (nI v33_0) v33_1 v33_2 v33_3 v33_4 v33_5 v33_6 v33_7 v33_8 f_34 v33_10 v33_11 v33_12 v33_13 v33_14 v33_15)) := ⟨_, rfl⟩
                have hP : va_P D vwCl ([] ++ va_pl L M_36) H_35 := by rw [eM_36]; exact hP
                have hD : va_D A ([] ++ va_pl L M_36) := by rw [eM_36]; exact hD
                have hW : WOK cy K L M_36 := by rw [eM_36]; exact hW.up_9 hb_17 ⟨v33_0, v33_1, v33_2, v33_3, v33_4, v33_5, v33_6, v33_7, v33_8, f_34, v33_10, v33_11, v33_12, v33_13, v33_14, v33_15, rfl, h33_0, h33_1, h33_4, h33_8⟩
                have hF : fr K L [9] M M_36 := by rw [eM_36]; exact hF.up hb_17 (by decide)
                have hT9 : fT 9 K L [9, 15] M M_36 := by rw [eM_36]; exact hT9.up (i := 9) hM33 rfl (by decide)
                have hM_37 : M_36 b_16 = (b9_9 (nI v33_0) v33_1 v33_2 v33_3 v33_4 v33_5 v33_6 v33_7 v33_8 f_34 v33_10 v33_11 v33_12 v33_13 v33_14 v33_15) := by rw [eM_36]; exact va_up_self _ _ _
                have hM_38 : M_36 oa = (b0_7 v30_0 v30_1 v30_2 (nI v30_3) v30_4) := by rw [eM_36, va_up_ne _ _ (ia.neT hb_17 (by decide))]; exact hM30
                refine lv_iinc (v := (nI (v2w4 + 1))) (lv' := [(2, .int (nI (v2w4 + 1))), (4, .int (nI v4w26)), (3, .ref b_16), (0, .ref oa), (1, .ref k1)]) hx hb dX0_bookDues_91 hl (k := 2) rfl (nI_1 v2w4) (by decide) rfl (fun ls hl => ?_)
                refine lv_goto (tgt := 2) hx hb dX0_bookDues_94 (by decide) ?_
                exact ih_2 (v2w4 + 1) M_36 H_35 _ _ (by omega) (by omega) hW hF hT9 hP hD hS (lv_sub hl [0, 3, 4] rfl)
              · have hz := rfl (a := 0)
                have n_39 : ¬ (v30_3 ≤ v4w26) := fun q => c_31 ((iLE (a := v30_3) (b := v4w26) (by omega) (by omega)).mpr q)
                refine lv_aload_n hx hb dX0_bookDues_40 rfl (lv_at hl 3 rfl) ?_
                refine lv_iload hx hb dX0_bookDues_41 (lv_at hl 0 rfl) ?_
                have hPc : va_P D vwCl ([] ++ va_pl L M_28) H_29 := hP
                have hDc : va_D A ([] ++ va_pl L M_28) := hD
                have hFc : ∀ q, va_A ([] ++ va_pl L M_28) H_29.size q → A q := pg_free hDc hS hA
                refine va_callq (va_runV (As := [.int (nI v4w26)]) (rest := []) ⟨hx, hb, hml, hown, hg⟩ (s_X0_at l D cy K L M_28 H_29.size oa (nI v4w26)  hW ia) (cwV 1 hg (gV wd_201 wd_202 wd_203 wd_204 wd_205) rfl rfl rfl (by decide +kernel) ⟨(Nat.le_trans (Nat.le_of_ble_eq_true rfl) hRf), (Nat.le_trans (Nat.le_of_ble_eq_true rfl) hRl)⟩) ⟨PG.blind, pg_recv hK hP ia.1 hM30 rfl, fun U hU hW => ⟨rfl, PG.at hPc hK hDc hN hU hW⟩⟩ rfl rfl hl.1 rfl (lv_room (Nat.le_of_ble_eq_true rfl)) dX0_bookDues_43 ⟨(Nat.le_trans (Nat.le_of_ble_eq_true rfl) hRc), (Nat.le_trans (Nat.le_of_ble_eq_true rfl) hRs)⟩) hS (fun q _ h => hFc q h) hFc (fun r_41 M_42 t H_40 locs ht hvm hw hB hz1 hk1 hS => ?_)
                have hp_43 := hw
                obtain ⟨hP1, hD1⟩ := hB
                rw [ht] at hP1
                have hP : va_P D vwCl ([] ++ va_pl L M_28) H_40 := hP1
                have hD : va_D A ([] ++ va_pl L M_28) := hD1.mono hFc
                rcases r_41 with _ | b_44
                · have hz := rfl (a := 0)
                  refine lv_astoreN (lv' := [(5, .null), (4, .int (nI v4w26)), (3, .ref b_16), (2, .int (nI v2w4)), (0, .ref oa), (1, .ref k1)]) hx hb dX0_bookDues_46 hl (by decide) rfl (fun ls hl => ?_)
                  refine lv_aload_n hx hb dX0_bookDues_48 rfl (lv_at hl 2 rfl) ?_
                  refine lv_dup hx hb dX0_bookDues_49 rfl ?_
                  obtain ⟨v45_0, v45_1, v45_2, v45_3, v45_4, v45_5, v45_6, v45_7, v45_8, v45_9, v45_10, v45_11, v45_12, v45_13, v45_14, v45_15, hM45, h45_0, h45_1, h45_4, h45_8⟩ := hW.open_9 hb_17
                  refine pg_get (D := D) (ci := 9) (v := .long v45_15) (C := RX9) (T := TX9) (N := 16) hx hb hg inG9 hown hK hP hb_17.1 hM45 rfl 15 (by decide) (hg _ wd_280) (fun _ h9 => h9) rfl dX0_bookDues_50 ?_
                  refine lv_aloadN hx hb dX0_bookDues_53 (lv_at hl 0 rfl) ?_
                  refine lv_ifnonnullN hx hb dX0_bookDues_55 ?_
                  refine lv_lconst (v := 0) hx hb dX0_bookDues_58 (by decide) ?_
                  refine lv_goto (tgt := 68) hx hb dX0_bookDues_59 (by decide) ?_
                  refine lv_ladd hx hb dX0_bookDues_68 ?_
                  refine lv_topl (fun f_46 ef_46 => ?_)
                  refine pg_put (D := D) (ci := 9) (v := .long f_46) (ty := .long) (C := RX9) (T := TX9) (N := 16) hx hb hg inG9 tyX9 tyX9_ok nmX9 hown hK hP hD hS hb_17.1 hM45 rfl 15 (by decide) (hg _ wd_280) (fun _ h9 => h9) rfl (by decide +kernel) rfl rfl (Nat.le_of_ble_eq_true rfl) dX0_bookDues_69 (fun H_47 locs hP hD hS => ?_)
                  obtain ⟨M_48, eM_48⟩ : ∃ M1 : Hp, M1 = va_up M_28 b_16 ((b9_9 (nI v45_0) v45_1 v45_2 v45_3 v45_4 v45_5 v45_6 v45_7 v45_8 v45_9 v45_10 v45_11 v45_12 v45_13 v45_14 f_46)) := ⟨_, rfl⟩
                  have hP : va_P D vwCl ([] ++ va_pl L M_48) H_47 := by rw [eM_48]; exact hP
                  have hD : va_D A ([] ++ va_pl L M_48) := by rw [eM_48]; exact hD
                  have hW : WOK cy K L M_48 := by rw [eM_48]; exact hW.up_9 hb_17 ⟨v45_0, v45_1, v45_2, v45_3, v45_4, v45_5, v45_6, v45_7, v45_8, v45_9, v45_10, v45_11, v45_12, v45_13, v45_14, f_46, rfl, h45_0, h45_1, h45_4, h45_8⟩
                  have hF : fr K L [9] M M_48 := by rw [eM_48]; exact hF.up hb_17 (by decide)
                  have hT9 : fT 9 K L [9, 15] M M_48 := by rw [eM_48]; exact hT9.up (i := 15) hM45 rfl (by decide)
                  have hM_49 : M_48 b_16 = (b9_9 (nI v45_0) v45_1 v45_2 v45_3 v45_4 v45_5 v45_6 v45_7 v45_8 v45_9 v45_10 v45_11 v45_12 v45_13 v45_14 f_46) := by rw [eM_48]; exact va_up_self _ _ _
                  have hM_50 : M_48 oa = (b0_7 v30_0 v30_1 v30_2 (nI v30_3) v30_4) := by rw [eM_48, va_up_ne _ _ (ia.neT hb_17 (by decide))]; exact hM30
                  refine lv_iinc (v := (nI (v4w26 + 1))) (lv' := [(4, .int (nI (v4w26 + 1))), (5, .null), (3, .ref b_16), (2, .int (nI v2w4)), (0, .ref oa), (1, .ref k1)]) hx hb dX0_bookDues_72 hl (k := 1) rfl (nI_1 v4w26) (by decide) rfl (fun ls hl => ?_)
                  refine lv_goto (tgt := 31) hx hb dX0_bookDues_75 (by decide) ?_
                  exact ih_24 (v4w26 + 1) M_48 H_47 _ _ (by omega) (by omega) hW hF hT9 hP hD hS (lv_sub hl [0, 2, 3, 4, 5] rfl)
                · have hb_51 := hp_43 b_44 rfl
                  refine lv_astore (lv' := [(5, .ref b_44), (4, .int (nI v4w26)), (3, .ref b_16), (2, .int (nI v2w4)), (0, .ref oa), (1, .ref k1)]) hx hb dX0_bookDues_46 hl (by decide) rfl (fun ls hl => ?_)
                  refine lv_aload_n hx hb dX0_bookDues_48 rfl (lv_at hl 2 rfl) ?_
                  refine lv_dup hx hb dX0_bookDues_49 rfl ?_
                  obtain ⟨v52_0, v52_1, v52_2, v52_3, v52_4, v52_5, v52_6, v52_7, v52_8, v52_9, v52_10, v52_11, v52_12, v52_13, v52_14, v52_15, hM52, h52_0, h52_1, h52_4, h52_8⟩ := hW.open_9 hb_17
                  refine pg_get (D := D) (ci := 9) (v := .long v52_15) (C := RX9) (T := TX9) (N := 16) hx hb hg inG9 hown hK hP hb_17.1 hM52 rfl 15 (by decide) (hg _ wd_280) (fun _ h9 => h9) rfl dX0_bookDues_50 ?_
                  refine lv_aload hx hb dX0_bookDues_53 (lv_at hl 0 rfl) ?_
                  refine lv_ifnonnull (tgt := 62) hx hb dX0_bookDues_55 (by decide) ?_
                  refine lv_aload hx hb dX0_bookDues_62 (lv_at hl 0 rfl) ?_
                  refine lv_aload_n hx hb dX0_bookDues_64 rfl (lv_at hl 2 rfl) ?_
                  obtain ⟨v53_0, v53_1, v53_2, v53_3, v53_4, v53_5, hM53, h53_0, h53_1⟩ := hW.open_8 hb_51
                  have hPc : va_P D vwCl ([] ++ va_pl L M_28) H_40 := hP
                  have hDc : va_D A ([] ++ va_pl L M_28) := hD
                  have hFc : ∀ q, va_A ([] ++ va_pl L M_28) H_40.size q → A q := pg_free hDc hS hA
                  refine va_calll (va_runV (As := [.ref b_16]) (rest := [.long v52_15, .ref b_16]) ⟨hx, hb, hml, hown, hg⟩ (s_X8_dueOf l D cy K L M_28 H_40.size b_44 b_16  hW hb_51 hb_17) (cwV 1 hg (gV wd_281 wd_282 wd_283 wd_193 wd_284) rfl rfl rfl (by decide +kernel) ⟨(Nat.le_trans (Nat.le_of_ble_eq_true rfl) hRf), (Nat.le_trans (Nat.le_of_ble_eq_true rfl) hRl)⟩) ⟨PG.blind, pg_recv hK hP hb_51.1 hM53 rfl, fun U hU hW => ⟨rfl, PG.at hPc hK hDc hN hU hW⟩⟩ rfl rfl hl.1 rfl (lv_room (Nat.le_of_ble_eq_true rfl)) dX0_bookDues_65 ⟨(Nat.le_trans (Nat.le_of_ble_eq_true rfl) hRc), (Nat.le_trans (Nat.le_of_ble_eq_true rfl) hRs)⟩) hS (fun q _ h => hFc q h) hFc (fun r_55 M_56 t H_54 locs ht hvm hw hB hz1 hk1 hS => ?_)
                  have hp_57 := hw
                  obtain ⟨hP1, hD1⟩ := hB
                  rw [ht] at hP1
                  have hP : va_P D vwCl ([] ++ va_pl L M_28) H_54 := hP1
                  have hD : va_D A ([] ++ va_pl L M_28) := hD1.mono hFc
                  refine lv_ladd hx hb dX0_bookDues_68 ?_
                  refine lv_topl (fun f_58 ef_58 => ?_)
                  refine pg_put (D := D) (ci := 9) (v := .long f_58) (ty := .long) (C := RX9) (T := TX9) (N := 16) hx hb hg inG9 tyX9 tyX9_ok nmX9 hown hK hP hD hS hb_17.1 hM52 rfl 15 (by decide) (hg _ wd_280) (fun _ h9 => h9) rfl (by decide +kernel) rfl rfl (Nat.le_of_ble_eq_true rfl) dX0_bookDues_69 (fun H_59 locs hP hD hS => ?_)
                  obtain ⟨M_60, eM_60⟩ : ∃ M1 : Hp, M1 = va_up M_28 b_16 ((b9_9 (nI v52_0) v52_1 v52_2 v52_3 v52_4 v52_5 v52_6 v52_7 v52_8 v52_9 v52_10 v52_11 v52_12 v52_13 v52_14 f_58)) := ⟨_, rfl⟩
                  have hP : va_P D vwCl ([] ++ va_pl L M_60) H_59 := by rw [eM_60]; exact hP
                  have hD : va_D A ([] ++ va_pl L M_60) := by rw [eM_60]; exact hD
                  have hW : WOK cy K L M_60 := by rw [eM_60]; exact hW.up_9 hb_17 ⟨v52_0, v52_1, v52_2, v52_3, v52_4, v52_5, v52_6, v52_7, v52_8, v52_9, v52_10, v52_11, v52_12, v52_13, v52_14, f_58, rfl, h52_0, h52_1, h52_4, h52_8⟩
                  have hF : fr K L [9] M M_60 := by rw [eM_60]; exact hF.up hb_17 (by decide)
                  have hT9 : fT 9 K L [9, 15] M M_60 := by rw [eM_60]; exact hT9.up (i := 15) hM52 rfl (by decide)
                  have hM_61 : M_60 b_16 = (b9_9 (nI v52_0) v52_1 v52_2 v52_3 v52_4 v52_5 v52_6 v52_7 v52_8 v52_9 v52_10 v52_11 v52_12 v52_13 v52_14 f_58) := by rw [eM_60]; exact va_up_self _ _ _
                  have hM_62 : M_60 oa = (b0_7 v30_0 v30_1 v30_2 (nI v30_3) v30_4) := by rw [eM_60, va_up_ne _ _ (ia.neT hb_17 (by decide))]; exact hM30
                  have hM_63 : M_60 b_44 = (b8_11 v53_0 v53_1 v53_2 v53_3 v53_4 v53_5) := by rw [eM_60, va_up_ne _ _ (hb_51.neT hb_17 (by decide))]; exact hM53
                  refine lv_iinc (v := (nI (v4w26 + 1))) (lv' := [(4, .int (nI (v4w26 + 1))), (5, .ref b_44), (3, .ref b_16), (2, .int (nI v2w4)), (0, .ref oa), (1, .ref k1)]) hx hb dX0_bookDues_72 hl (k := 1) rfl (nI_1 v4w26) (by decide) rfl (fun ls hl => ?_)
                  refine lv_goto (tgt := 31) hx hb dX0_bookDues_75 (by decide) ?_
                  exact ih_24 (v4w26 + 1) M_60 H_59 _ _ (by omega) (by omega) hW hF hT9 hP hD hS (lv_sub hl [0, 2, 3, 4, 5] rfl)
          exact key_23 (120 - 0 + 1) 0 M_20 H_18 _ _ (by omega) (by omega) hW hF hT9 hP hD hS (lv_sub hl [0, 1, 2, 3, 4] rfl)
  exact key_1 (24 - 0 + 1) 0 M s.heap _ _ (by omega) (by omega) hW hF hT9 hP hD hS (lv_sub hl [0, 1, 2] rfl)
