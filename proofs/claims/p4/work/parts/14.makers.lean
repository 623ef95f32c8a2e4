theorem dX2_addTenure_0 : decode cX2_addTenure 0 = .ok (.aload_n 0, 1) := by decide +kernel
theorem dX2_addTenure_1 : decode cX2_addTenure 1 = .ok (.getfield 85, 3) := by decide +kernel
theorem dX2_addTenure_4 : decode cX2_addTenure 4 = .ok (.bipush 24, 2) := by decide +kernel
theorem dX2_addTenure_6 : decode cX2_addTenure 6 = .ok (.if_icmp .ge 10, 3) := by decide +kernel
theorem dX2_addTenure_9 : decode cX2_addTenure 9 = .ok (.iload_n 2, 1) := by decide +kernel
theorem dX2_addTenure_10 : decode cX2_addTenure 10 = .ok (.invokestatic 88, 3) := by decide +kernel
theorem dX2_addTenure_13 : decode cX2_addTenure 13 = .ok (.ifCond .ne 5, 3) := by decide +kernel
theorem dX2_addTenure_16 : decode cX2_addTenure 16 = .ok (.iconst (-1), 1) := by decide +kernel
theorem dX2_addTenure_17 : decode cX2_addTenure 17 = .ok (.ireturn, 1) := by decide +kernel
theorem dX2_addTenure_18 : decode cX2_addTenure 18 = .ok (.new 18, 3) := by decide +kernel
theorem dX2_addTenure_21 : decode cX2_addTenure 21 = .ok (.dup, 1) := by decide +kernel
theorem dX2_addTenure_22 : decode cX2_addTenure 22 = .ok (.aload_n 0, 1) := by decide +kernel
theorem dX2_addTenure_23 : decode cX2_addTenure 23 = .ok (.getfield 85, 3) := by decide +kernel
theorem dX2_addTenure_26 : decode cX2_addTenure 26 = .ok (.aload_n 1, 1) := by decide +kernel
theorem dX2_addTenure_27 : decode cX2_addTenure 27 = .ok (.iload_n 2, 1) := by decide +kernel
theorem dX2_addTenure_28 : decode cX2_addTenure 28 = .ok (.iload_n 3, 1) := by decide +kernel
theorem dX2_addTenure_29 : decode cX2_addTenure 29 = .ok (.iload 4, 2) := by decide +kernel
theorem dX2_addTenure_31 : decode cX2_addTenure 31 = .ok (.invokespecial 105, 3) := by decide +kernel
theorem dX2_addTenure_34 : decode cX2_addTenure 34 = .ok (.astore 5, 2) := by decide +kernel
theorem dX2_addTenure_36 : decode cX2_addTenure 36 = .ok (.aload_n 0, 1) := by decide +kernel
theorem dX2_addTenure_37 : decode cX2_addTenure 37 = .ok (.getfield 24, 3) := by decide +kernel
theorem dX2_addTenure_40 : decode cX2_addTenure 40 = .ok (.aload_n 0, 1) := by decide +kernel
theorem dX2_addTenure_41 : decode cX2_addTenure 41 = .ok (.getfield 85, 3) := by decide +kernel
theorem dX2_addTenure_44 : decode cX2_addTenure 44 = .ok (.aload 5, 2) := by decide +kernel
theorem dX2_addTenure_46 : decode cX2_addTenure 46 = .ok (.aastore, 1) := by decide +kernel
theorem dX2_addTenure_47 : decode cX2_addTenure 47 = .ok (.aload_n 0, 1) := by decide +kernel
theorem dX2_addTenure_48 : decode cX2_addTenure 48 = .ok (.dup, 1) := by decide +kernel
theorem dX2_addTenure_49 : decode cX2_addTenure 49 = .ok (.getfield 85, 3) := by decide +kernel
theorem dX2_addTenure_52 : decode cX2_addTenure 52 = .ok (.iconst 1, 1) := by decide +kernel
theorem dX2_addTenure_53 : decode cX2_addTenure 53 = .ok (.iadd, 1) := by decide +kernel
theorem dX2_addTenure_54 : decode cX2_addTenure 54 = .ok (.putfield 85, 3) := by decide +kernel
theorem dX2_addTenure_57 : decode cX2_addTenure 57 = .ok (.aload_n 0, 1) := by decide +kernel
theorem dX2_addTenure_58 : decode cX2_addTenure 58 = .ok (.getfield 20, 3) := by decide +kernel
theorem dX2_addTenure_61 : decode cX2_addTenure 61 = .ok (.iload_n 2, 1) := by decide +kernel
theorem dX2_addTenure_62 : decode cX2_addTenure 62 = .ok (.aload 5, 2) := by decide +kernel
theorem dX2_addTenure_64 : decode cX2_addTenure 64 = .ok (.aastore, 1) := by decide +kernel
theorem dX2_addTenure_65 : decode cX2_addTenure 65 = .ok (.aload_n 1, 1) := by decide +kernel
theorem dX2_addTenure_66 : decode cX2_addTenure 66 = .ok (.getfield 108, 3) := by decide +kernel
theorem dX2_addTenure_69 : decode cX2_addTenure 69 = .ok (.ifnull 21, 3) := by decide +kernel
theorem dX2_addTenure_72 : decode cX2_addTenure 72 = .ok (.aload_n 0, 1) := by decide +kernel
theorem dX2_addTenure_73 : decode cX2_addTenure 73 = .ok (.dup, 1) := by decide +kernel
theorem dX2_addTenure_74 : decode cX2_addTenure 74 = .ok (.getfield 114, 3) := by decide +kernel
theorem dX2_addTenure_77 : decode cX2_addTenure 77 = .ok (.iconst 1, 1) := by decide +kernel
theorem dX2_addTenure_78 : decode cX2_addTenure 78 = .ok (.aload_n 1, 1) := by decide +kernel
theorem dX2_addTenure_79 : decode cX2_addTenure 79 = .ok (.getfield 108, 3) := by decide +kernel
theorem dX2_addTenure_82 : decode cX2_addTenure 82 = .ok (.getfield 62, 3) := by decide +kernel
theorem dX2_addTenure_85 : decode cX2_addTenure 85 = .ok (.ishl, 1) := by decide +kernel
theorem dX2_addTenure_86 : decode cX2_addTenure 86 = .ok (.ior, 1) := by decide +kernel
theorem dX2_addTenure_87 : decode cX2_addTenure 87 = .ok (.putfield 114, 3) := by decide +kernel
theorem dX2_addTenure_90 : decode cX2_addTenure 90 = .ok (.aload 5, 2) := by decide +kernel
theorem dX2_addTenure_92 : decode cX2_addTenure 92 = .ok (.getfield 117, 3) := by decide +kernel
theorem dX2_addTenure_95 : decode cX2_addTenure 95 = .ok (.ireturn, 1) := by decide +kernel
theorem dX6_init_0 : decode cX6_init 0 = .ok (.aload_n 0, 1) := by decide +kernel
theorem dX6_init_1 : decode cX6_init 1 = .ok (.invokespecial 3, 3) := by decide +kernel
theorem dX6_init_4 : decode cX6_init 4 = .ok (.aload_n 0, 1) := by decide +kernel
theorem dX6_init_5 : decode cX6_init 5 = .ok (.iload_n 1, 1) := by decide +kernel
theorem dX6_init_6 : decode cX6_init 6 = .ok (.putfield 9, 3) := by decide +kernel
theorem dX6_init_9 : decode cX6_init 9 = .ok (.aload_n 0, 1) := by decide +kernel
theorem dX6_init_10 : decode cX6_init 10 = .ok (.bipush 24, 2) := by decide +kernel
theorem dX6_init_12 : decode cX6_init 12 = .ok (.newarray .int, 2) := by decide +kernel
theorem dX6_init_14 : decode cX6_init 14 = .ok (.putfield 15, 3) := by decide +kernel
theorem dX6_init_17 : decode cX6_init 17 = .ok (.aload_n 2, 1) := by decide +kernel
theorem dX6_init_18 : decode cX6_init 18 = .ok (.ifnull 29, 3) := by decide +kernel
theorem dX6_init_21 : decode cX6_init 21 = .ok (.aload_n 0, 1) := by decide +kernel
theorem dX6_init_22 : decode cX6_init 22 = .ok (.aload_n 2, 1) := by decide +kernel
theorem dX6_init_23 : decode cX6_init 23 = .ok (.getfield 19, 3) := by decide +kernel
theorem dX6_init_26 : decode cX6_init 26 = .ok (.putfield 19, 3) := by decide +kernel
theorem dX6_init_29 : decode cX6_init 29 = .ok (.aload_n 2, 1) := by decide +kernel
theorem dX6_init_30 : decode cX6_init 30 = .ok (.getfield 15, 3) := by decide +kernel
theorem dX6_init_33 : decode cX6_init 33 = .ok (.iconst 0, 1) := by decide +kernel
theorem dX6_init_34 : decode cX6_init 34 = .ok (.aload_n 0, 1) := by decide +kernel
theorem dX6_init_35 : decode cX6_init 35 = .ok (.getfield 15, 3) := by decide +kernel
theorem dX6_init_38 : decode cX6_init 38 = .ok (.iconst 0, 1) := by decide +kernel
theorem dX6_init_39 : decode cX6_init 39 = .ok (.aload_n 0, 1) := by decide +kernel
theorem dX6_init_40 : decode cX6_init 40 = .ok (.getfield 15, 3) := by decide +kernel
theorem dX6_init_43 : decode cX6_init 43 = .ok (.arraylength, 1) := by decide +kernel
theorem dX6_init_44 : decode cX6_init 44 = .ok (.invokestatic 22, 3) := by decide +kernel
theorem dX6_init_47 : decode cX6_init 47 = .ok (.return_, 1) := by decide +kernel
theorem dX11_partner_0 : decode cX11_partner 0 = .ok (.iload_n 1, 1) := by decide +kernel
theorem dX11_partner_1 : decode cX11_partner 1 = .ok (.ifCond .lt 9, 3) := by decide +kernel
theorem dX11_partner_4 : decode cX11_partner 4 = .ok (.iload_n 1, 1) := by decide +kernel
theorem dX11_partner_5 : decode cX11_partner 5 = .ok (.bipush 6, 2) := by decide +kernel
theorem dX11_partner_7 : decode cX11_partner 7 = .ok (.if_icmp .lt 9, 3) := by decide +kernel
theorem dX11_partner_10 : decode cX11_partner 10 = .ok (.aload_n 0, 1) := by decide +kernel
theorem dX11_partner_11 : decode cX11_partner 11 = .ok (.iconst 2, 1) := by decide +kernel
theorem dX11_partner_12 : decode cX11_partner 12 = .ok (.invokevirtual 47, 3) := by decide +kernel
theorem dX11_partner_15 : decode cX11_partner 15 = .ok (.ireturn, 1) := by decide +kernel
theorem dX11_partner_16 : decode cX11_partner 16 = .ok (.iload_n 1, 1) := by decide +kernel
theorem dX11_partner_17 : decode cX11_partner 17 = .ok (.invokestatic 60, 3) := by decide +kernel
theorem dX11_partner_20 : decode cX11_partner 20 = .ok (.ifCond .eq 19, 3) := by decide +kernel
theorem dX11_partner_23 : decode cX11_partner 23 = .ok (.iload_n 2, 1) := by decide +kernel
theorem dX11_partner_24 : decode cX11_partner 24 = .ok (.ifCond .lt 9, 3) := by decide +kernel
theorem dX11_partner_27 : decode cX11_partner 27 = .ok (.iload_n 2, 1) := by decide +kernel
theorem dX11_partner_28 : decode cX11_partner 28 = .ok (.ldc 64, 2) := by decide +kernel
theorem dX11_partner_30 : decode cX11_partner 30 = .ok (.if_icmp .le 9, 3) := by decide +kernel
theorem dX11_partner_33 : decode cX11_partner 33 = .ok (.aload_n 0, 1) := by decide +kernel
theorem dX11_partner_34 : decode cX11_partner 34 = .ok (.iconst 2, 1) := by decide +kernel
theorem dX11_partner_35 : decode cX11_partner 35 = .ok (.invokevirtual 47, 3) := by decide +kernel
theorem dX11_partner_38 : decode cX11_partner 38 = .ok (.ireturn, 1) := by decide +kernel
theorem dX11_partner_39 : decode cX11_partner 39 = .ok (.iload_n 1, 1) := by decide +kernel
theorem dX11_partner_40 : decode cX11_partner 40 = .ok (.iconst 5, 1) := by decide +kernel
theorem dX11_partner_41 : decode cX11_partner 41 = .ok (.if_icmp .ne 11, 3) := by decide +kernel
theorem dX11_partner_44 : decode cX11_partner 44 = .ok (.aload_n 0, 1) := by decide +kernel
theorem dX11_partner_45 : decode cX11_partner 45 = .ok (.iload_n 2, 1) := by decide +kernel
theorem dX11_partner_46 : decode cX11_partner 46 = .ok (.invokevirtual 65, 3) := by decide +kernel
theorem dX11_partner_49 : decode cX11_partner 49 = .ok (.goto 4, 3) := by decide +kernel
theorem dX11_partner_52 : decode cX11_partner 52 = .ok (.aconst_null, 1) := by decide +kernel
theorem dX11_partner_53 : decode cX11_partner 53 = .ok (.astore_n 3, 1) := by decide +kernel
theorem dX11_partner_54 : decode cX11_partner 54 = .ok (.iload_n 1, 1) := by decide +kernel
theorem dX11_partner_55 : decode cX11_partner 55 = .ok (.iconst 5, 1) := by decide +kernel
theorem dX11_partner_56 : decode cX11_partner 56 = .ok (.if_icmp .ne 13, 3) := by decide +kernel
theorem dX11_partner_59 : decode cX11_partner 59 = .ok (.aload_n 3, 1) := by decide +kernel
theorem dX11_partner_60 : decode cX11_partner 60 = .ok (.ifnonnull 9, 3) := by decide +kernel
theorem dX11_partner_63 : decode cX11_partner 63 = .ok (.aload_n 0, 1) := by decide +kernel
theorem dX11_partner_64 : decode cX11_partner 64 = .ok (.iconst 1, 1) := by decide +kernel
theorem dX11_partner_65 : decode cX11_partner 65 = .ok (.invokevirtual 47, 3) := by decide +kernel
theorem dX11_partner_68 : decode cX11_partner 68 = .ok (.ireturn, 1) := by decide +kernel
theorem dX11_partner_69 : decode cX11_partner 69 = .ok (.aload_n 0, 1) := by decide +kernel
theorem dX11_partner_70 : decode cX11_partner 70 = .ok (.getfield 69, 3) := by decide +kernel
theorem dX11_partner_73 : decode cX11_partner 73 = .ok (.bipush 40, 2) := by decide +kernel
theorem dX11_partner_75 : decode cX11_partner 75 = .ok (.if_icmp .lt 10, 3) := by decide +kernel
theorem dX11_partner_78 : decode cX11_partner 78 = .ok (.aload_n 0, 1) := by decide +kernel
theorem dX11_partner_79 : decode cX11_partner 79 = .ok (.bipush 9, 2) := by decide +kernel
theorem dX11_partner_81 : decode cX11_partner 81 = .ok (.invokevirtual 47, 3) := by decide +kernel
theorem dX11_partner_84 : decode cX11_partner 84 = .ok (.ireturn, 1) := by decide +kernel
theorem dX11_partner_85 : decode cX11_partner 85 = .ok (.aload_n 0, 1) := by decide +kernel
theorem dX11_partner_86 : decode cX11_partner 86 = .ok (.getfield 17, 3) := by decide +kernel
theorem dX11_partner_89 : decode cX11_partner 89 = .ok (.aload_n 0, 1) := by decide +kernel
theorem dX11_partner_90 : decode cX11_partner 90 = .ok (.getfield 69, 3) := by decide +kernel
theorem dX11_partner_93 : decode cX11_partner 93 = .ok (.new 15, 3) := by decide +kernel
theorem dX11_partner_96 : decode cX11_partner 96 = .ok (.dup, 1) := by decide +kernel
theorem dX11_partner_97 : decode cX11_partner 97 = .ok (.aload_n 0, 1) := by decide +kernel
theorem dX11_partner_98 : decode cX11_partner 98 = .ok (.getfield 69, 3) := by decide +kernel
theorem dX11_partner_101 : decode cX11_partner 101 = .ok (.iload_n 1, 1) := by decide +kernel
theorem dX11_partner_102 : decode cX11_partner 102 = .ok (.iload_n 2, 1) := by decide +kernel
theorem dX11_partner_103 : decode cX11_partner 103 = .ok (.aload_n 3, 1) := by decide +kernel
theorem dX11_partner_104 : decode cX11_partner 104 = .ok (.invokespecial 72, 3) := by decide +kernel
theorem dX11_partner_107 : decode cX11_partner 107 = .ok (.aastore, 1) := by decide +kernel
theorem dX11_partner_108 : decode cX11_partner 108 = .ok (.aload_n 0, 1) := by decide +kernel
theorem dX11_partner_109 : decode cX11_partner 109 = .ok (.dup, 1) := by decide +kernel
theorem dX11_partner_110 : decode cX11_partner 110 = .ok (.getfield 69, 3) := by decide +kernel
theorem dX11_partner_113 : decode cX11_partner 113 = .ok (.iconst 1, 1) := by decide +kernel
theorem dX11_partner_114 : decode cX11_partner 114 = .ok (.iadd, 1) := by decide +kernel
theorem dX11_partner_115 : decode cX11_partner 115 = .ok (.putfield 69, 3) := by decide +kernel
theorem dX11_partner_118 : decode cX11_partner 118 = .ok (.aload_n 0, 1) := by decide +kernel
theorem dX11_partner_119 : decode cX11_partner 119 = .ok (.aload_n 0, 1) := by decide +kernel
theorem dX11_partner_120 : decode cX11_partner 120 = .ok (.getfield 69, 3) := by decide +kernel
theorem dX11_partner_123 : decode cX11_partner 123 = .ok (.iconst 1, 1) := by decide +kernel
theorem dX11_partner_124 : decode cX11_partner 124 = .ok (.isub, 1) := by decide +kernel
theorem dX11_partner_125 : decode cX11_partner 125 = .ok (.invokevirtual 57, 3) := by decide +kernel
theorem dX11_partner_128 : decode cX11_partner 128 = .ok (.ireturn, 1) := by decide +kernel
theorem dX11_join_0 : decode cX11_join 0 = .ok (.aload_n 0, 1) := by decide +kernel
theorem dX11_join_1 : decode cX11_join 1 = .ok (.getfield 31, 3) := by decide +kernel
theorem dX11_join_4 : decode cX11_join 4 = .ok (.invokevirtual 96, 3) := by decide +kernel
theorem dX11_join_7 : decode cX11_join 7 = .ok (.aload_n 0, 1) := by decide +kernel
theorem dX11_join_8 : decode cX11_join 8 = .ok (.iload_n 1, 1) := by decide +kernel
theorem dX11_join_9 : decode cX11_join 9 = .ok (.invokevirtual 65, 3) := by decide +kernel
theorem dX11_join_12 : decode cX11_join 12 = .ok (.astore 6, 2) := by decide +kernel
theorem dX11_join_14 : decode cX11_join 14 = .ok (.aload_n 0, 1) := by decide +kernel
theorem dX11_join_15 : decode cX11_join 15 = .ok (.iload_n 3, 1) := by decide +kernel
theorem dX11_join_16 : decode cX11_join 16 = .ok (.invokevirtual 99, 3) := by decide +kernel
theorem dX11_join_19 : decode cX11_join 19 = .ok (.astore 7, 2) := by decide +kernel
theorem dX11_join_21 : decode cX11_join 21 = .ok (.aload 6, 2) := by decide +kernel
theorem dX11_join_23 : decode cX11_join 23 = .ok (.ifnull 15, 3) := by decide +kernel
theorem dX11_join_26 : decode cX11_join 26 = .ok (.aload 7, 2) := by decide +kernel
theorem dX11_join_28 : decode cX11_join 28 = .ok (.ifnull 10, 3) := by decide +kernel
theorem dX11_join_31 : decode cX11_join 31 = .ok (.iload_n 2, 1) := by decide +kernel
theorem dX11_join_32 : decode cX11_join 32 = .ok (.invokestatic 75, 3) := by decide +kernel
theorem dX11_join_35 : decode cX11_join 35 = .ok (.ifCond .ne 9, 3) := by decide +kernel
theorem dX11_join_38 : decode cX11_join 38 = .ok (.aload_n 0, 1) := by decide +kernel
theorem dX11_join_39 : decode cX11_join 39 = .ok (.iconst 1, 1) := by decide +kernel
theorem dX11_join_40 : decode cX11_join 40 = .ok (.invokevirtual 47, 3) := by decide +kernel
theorem dX11_join_43 : decode cX11_join 43 = .ok (.ireturn, 1) := by decide +kernel
theorem dX11_join_44 : decode cX11_join 44 = .ok (.aload 6, 2) := by decide +kernel
theorem dX11_join_46 : decode cX11_join 46 = .ok (.iload 4, 2) := by decide +kernel
theorem dX11_join_48 : decode cX11_join 48 = .ok (.invokevirtual 103, 3) := by decide +kernel
theorem dX11_join_51 : decode cX11_join 51 = .ok (.ifCond .ne 9, 3) := by decide +kernel
theorem dX11_join_54 : decode cX11_join 54 = .ok (.aload_n 0, 1) := by decide +kernel
theorem dX11_join_55 : decode cX11_join 55 = .ok (.iconst 3, 1) := by decide +kernel
theorem dX11_join_56 : decode cX11_join 56 = .ok (.invokevirtual 47, 3) := by decide +kernel
theorem dX11_join_59 : decode cX11_join 59 = .ok (.ireturn, 1) := by decide +kernel
theorem dX11_join_60 : decode cX11_join 60 = .ok (.aload 6, 2) := by decide +kernel
theorem dX11_join_62 : decode cX11_join 62 = .ok (.getfield 79, 3) := by decide +kernel
theorem dX11_join_65 : decode cX11_join 65 = .ok (.iload_n 2, 1) := by decide +kernel
theorem dX11_join_66 : decode cX11_join 66 = .ok (.iaload, 1) := by decide +kernel
theorem dX11_join_67 : decode cX11_join 67 = .ok (.ifCond .ne 14, 3) := by decide +kernel
theorem dX11_join_70 : decode cX11_join 70 = .ok (.aload 6, 2) := by decide +kernel
theorem dX11_join_72 : decode cX11_join 72 = .ok (.iload_n 2, 1) := by decide +kernel
theorem dX11_join_73 : decode cX11_join 73 = .ok (.iload 4, 2) := by decide +kernel
theorem dX11_join_75 : decode cX11_join 75 = .ok (.invokevirtual 106, 3) := by decide +kernel
theorem dX11_join_78 : decode cX11_join 78 = .ok (.ifCond .ne 9, 3) := by decide +kernel
theorem dX11_join_81 : decode cX11_join 81 = .ok (.aload_n 0, 1) := by decide +kernel
theorem dX11_join_82 : decode cX11_join 82 = .ok (.iconst 4, 1) := by decide +kernel
theorem dX11_join_83 : decode cX11_join 83 = .ok (.invokevirtual 47, 3) := by decide +kernel
theorem dX11_join_86 : decode cX11_join 86 = .ok (.ireturn, 1) := by decide +kernel
theorem dX11_join_87 : decode cX11_join 87 = .ok (.aload 7, 2) := by decide +kernel
theorem dX11_join_89 : decode cX11_join 89 = .ok (.getfield 110, 3) := by decide +kernel
theorem dX11_join_92 : decode cX11_join 92 = .ok (.ifnull 41, 3) := by decide +kernel
theorem dX11_join_95 : decode cX11_join 95 = .ok (.aload_n 0, 1) := by decide +kernel
theorem dX11_join_96 : decode cX11_join 96 = .ok (.getfield 31, 3) := by decide +kernel
theorem dX11_join_99 : decode cX11_join 99 = .ok (.aload_n 0, 1) := by decide +kernel
theorem dX11_join_100 : decode cX11_join 100 = .ok (.getfield 11, 3) := by decide +kernel
theorem dX11_join_103 : decode cX11_join 103 = .ok (.aload_n 0, 1) := by decide +kernel
theorem dX11_join_104 : decode cX11_join 104 = .ok (.getfield 51, 3) := by decide +kernel
theorem dX11_join_107 : decode cX11_join 107 = .ok (.aload 6, 2) := by decide +kernel
theorem dX11_join_109 : decode cX11_join 109 = .ok (.getfield 114, 3) := by decide +kernel
theorem dX11_join_112 : decode cX11_join 112 = .ok (.aload 7, 2) := by decide +kernel
theorem dX11_join_114 : decode cX11_join 114 = .ok (.getfield 110, 3) := by decide +kernel
theorem dX11_join_117 : decode cX11_join 117 = .ok (.getfield 114, 3) := by decide +kernel
theorem dX11_join_120 : decode cX11_join 120 = .ok (.invokevirtual 117, 3) := by decide +kernel
theorem dX11_join_123 : decode cX11_join 123 = .ok (.ifCond .eq 10, 3) := by decide +kernel
theorem dX11_join_126 : decode cX11_join 126 = .ok (.aload_n 0, 1) := by decide +kernel
theorem dX11_join_127 : decode cX11_join 127 = .ok (.bipush 8, 2) := by decide +kernel
theorem dX11_join_129 : decode cX11_join 129 = .ok (.invokevirtual 47, 3) := by decide +kernel
theorem dX11_join_132 : decode cX11_join 132 = .ok (.ireturn, 1) := by decide +kernel
theorem dX11_join_133 : decode cX11_join 133 = .ok (.aload 6, 2) := by decide +kernel
theorem dX11_join_135 : decode cX11_join 135 = .ok (.getfield 121, 3) := by decide +kernel
theorem dX11_join_138 : decode cX11_join 138 = .ok (.bipush 24, 2) := by decide +kernel
theorem dX11_join_140 : decode cX11_join 140 = .ok (.if_icmp .lt 10, 3) := by decide +kernel
theorem dX11_join_143 : decode cX11_join 143 = .ok (.aload_n 0, 1) := by decide +kernel
theorem dX11_join_144 : decode cX11_join 144 = .ok (.bipush 9, 2) := by decide +kernel
theorem dX11_join_146 : decode cX11_join 146 = .ok (.invokevirtual 47, 3) := by decide +kernel
theorem dX11_join_149 : decode cX11_join 149 = .ok (.ireturn, 1) := by decide +kernel
theorem dX11_join_150 : decode cX11_join 150 = .ok (.aload_n 0, 1) := by decide +kernel
theorem dX11_join_151 : decode cX11_join 151 = .ok (.aload 6, 2) := by decide +kernel
theorem dX11_join_153 : decode cX11_join 153 = .ok (.aload 7, 2) := by decide +kernel
theorem dX11_join_155 : decode cX11_join 155 = .ok (.iload_n 2, 1) := by decide +kernel
theorem dX11_join_156 : decode cX11_join 156 = .ok (.iload 4, 2) := by decide +kernel
theorem dX11_join_158 : decode cX11_join 158 = .ok (.iload 5, 2) := by decide +kernel
theorem dX11_join_160 : decode cX11_join 160 = .ok (.invokevirtual 124, 3) := by decide +kernel
theorem dX11_join_163 : decode cX11_join 163 = .ok (.invokevirtual 57, 3) := by decide +kernel
theorem dX11_join_166 : decode cX11_join 166 = .ok (.ireturn, 1) := by decide +kernel
theorem dX11_die_0 : decode cX11_die 0 = .ok (.aload_n 0, 1) := by decide +kernel
theorem dX11_die_1 : decode cX11_die 1 = .ok (.iload_n 1, 1) := by decide +kernel
theorem dX11_die_2 : decode cX11_die 2 = .ok (.invokevirtual 65, 3) := by decide +kernel
theorem dX11_die_5 : decode cX11_die 5 = .ok (.astore 5, 2) := by decide +kernel
theorem dX11_die_7 : decode cX11_die 7 = .ok (.aload_n 0, 1) := by decide +kernel
theorem dX11_die_8 : decode cX11_die 8 = .ok (.iload 4, 2) := by decide +kernel
theorem dX11_die_10 : decode cX11_die 10 = .ok (.invokevirtual 99, 3) := by decide +kernel
theorem dX11_die_13 : decode cX11_die 13 = .ok (.astore 6, 2) := by decide +kernel
theorem dX11_die_15 : decode cX11_die 15 = .ok (.aload 5, 2) := by decide +kernel
theorem dX11_die_17 : decode cX11_die 17 = .ok (.ifnull 15, 3) := by decide +kernel
theorem dX11_die_20 : decode cX11_die 20 = .ok (.aload 6, 2) := by decide +kernel
theorem dX11_die_22 : decode cX11_die 22 = .ok (.ifnull 10, 3) := by decide +kernel
theorem dX11_die_25 : decode cX11_die 25 = .ok (.iload_n 2, 1) := by decide +kernel
theorem dX11_die_26 : decode cX11_die 26 = .ok (.invokestatic 75, 3) := by decide +kernel
theorem dX11_die_29 : decode cX11_die 29 = .ok (.ifCond .ne 9, 3) := by decide +kernel
theorem dX11_die_32 : decode cX11_die 32 = .ok (.aload_n 0, 1) := by decide +kernel
theorem dX11_die_33 : decode cX11_die 33 = .ok (.iconst 1, 1) := by decide +kernel
theorem dX11_die_34 : decode cX11_die 34 = .ok (.invokevirtual 47, 3) := by decide +kernel
theorem dX11_die_37 : decode cX11_die 37 = .ok (.ireturn, 1) := by decide +kernel
theorem dX11_die_38 : decode cX11_die 38 = .ok (.aload 5, 2) := by decide +kernel
theorem dX11_die_40 : decode cX11_die 40 = .ok (.iload_n 2, 1) := by decide +kernel
theorem dX11_die_41 : decode cX11_die 41 = .ok (.invokevirtual 82, 3) := by decide +kernel
theorem dX11_die_44 : decode cX11_die 44 = .ok (.astore 7, 2) := by decide +kernel
theorem dX11_die_46 : decode cX11_die 46 = .ok (.aload 7, 2) := by decide +kernel
theorem dX11_die_48 : decode cX11_die 48 = .ok (.ifnonnull 9, 3) := by decide +kernel
theorem dX11_die_51 : decode cX11_die 51 = .ok (.aload_n 0, 1) := by decide +kernel
theorem dX11_die_52 : decode cX11_die 52 = .ok (.iconst 4, 1) := by decide +kernel
theorem dX11_die_53 : decode cX11_die 53 = .ok (.invokevirtual 47, 3) := by decide +kernel
theorem dX11_die_56 : decode cX11_die 56 = .ok (.ireturn, 1) := by decide +kernel
theorem dX11_die_57 : decode cX11_die 57 = .ok (.aload 6, 2) := by decide +kernel
theorem dX11_die_59 : decode cX11_die 59 = .ok (.getfield 136, 3) := by decide +kernel
theorem dX11_die_62 : decode cX11_die 62 = .ok (.iconst 4, 1) := by decide +kernel
theorem dX11_die_63 : decode cX11_die 63 = .ok (.if_icmp .eq 9, 3) := by decide +kernel
theorem dX11_die_66 : decode cX11_die 66 = .ok (.aload_n 0, 1) := by decide +kernel
theorem dX11_die_67 : decode cX11_die 67 = .ok (.iconst 2, 1) := by decide +kernel
theorem dX11_die_68 : decode cX11_die 68 = .ok (.invokevirtual 47, 3) := by decide +kernel
theorem dX11_die_71 : decode cX11_die 71 = .ok (.ireturn, 1) := by decide +kernel
theorem dX11_die_72 : decode cX11_die 72 = .ok (.aload 5, 2) := by decide +kernel
theorem dX11_die_74 : decode cX11_die 74 = .ok (.iload_n 3, 1) := by decide +kernel
theorem dX11_die_75 : decode cX11_die 75 = .ok (.invokevirtual 103, 3) := by decide +kernel
theorem dX11_die_78 : decode cX11_die 78 = .ok (.ifCond .eq 12, 3) := by decide +kernel
theorem dX11_die_81 : decode cX11_die 81 = .ok (.iload_n 3, 1) := by decide +kernel
theorem dX11_die_82 : decode cX11_die 82 = .ok (.aload 7, 2) := by decide +kernel
theorem dX11_die_84 : decode cX11_die 84 = .ok (.getfield 128, 3) := by decide +kernel
theorem dX11_die_87 : decode cX11_die 87 = .ok (.if_icmp .gt 9, 3) := by decide +kernel
theorem dX11_die_90 : decode cX11_die 90 = .ok (.aload_n 0, 1) := by decide +kernel
theorem dX11_die_91 : decode cX11_die 91 = .ok (.iconst 3, 1) := by decide +kernel
theorem dX11_die_92 : decode cX11_die 92 = .ok (.invokevirtual 47, 3) := by decide +kernel
theorem dX11_die_95 : decode cX11_die 95 = .ok (.ireturn, 1) := by decide +kernel
theorem dX11_die_96 : decode cX11_die 96 = .ok (.aload 5, 2) := by decide +kernel
theorem dX11_die_98 : decode cX11_die 98 = .ok (.getfield 121, 3) := by decide +kernel
theorem dX11_die_101 : decode cX11_die 101 = .ok (.bipush 24, 2) := by decide +kernel
theorem dX11_die_103 : decode cX11_die 103 = .ok (.if_icmp .lt 10, 3) := by decide +kernel
theorem dX11_die_106 : decode cX11_die 106 = .ok (.aload_n 0, 1) := by decide +kernel
theorem dX11_die_107 : decode cX11_die 107 = .ok (.bipush 9, 2) := by decide +kernel
theorem dX11_die_109 : decode cX11_die 109 = .ok (.invokevirtual 47, 3) := by decide +kernel
theorem dX11_die_112 : decode cX11_die 112 = .ok (.ireturn, 1) := by decide +kernel
theorem dX11_die_113 : decode cX11_die 113 = .ok (.aload 7, 2) := by decide +kernel
theorem dX11_die_115 : decode cX11_die 115 = .ok (.iload_n 3, 1) := by decide +kernel
theorem dX11_die_116 : decode cX11_die 116 = .ok (.iconst 1, 1) := by decide +kernel
theorem dX11_die_117 : decode cX11_die 117 = .ok (.iconst 0, 1) := by decide +kernel
theorem dX11_die_118 : decode cX11_die 118 = .ok (.invokevirtual 131, 3) := by decide +kernel
theorem dX11_die_121 : decode cX11_die 121 = .ok (.aload 5, 2) := by decide +kernel
theorem dX11_die_123 : decode cX11_die 123 = .ok (.aload 6, 2) := by decide +kernel
theorem dX11_die_125 : decode cX11_die 125 = .ok (.iload_n 2, 1) := by decide +kernel
theorem dX11_die_126 : decode cX11_die 126 = .ok (.iload_n 3, 1) := by decide +kernel
theorem dX11_die_127 : decode cX11_die 127 = .ok (.iconst 0, 1) := by decide +kernel
theorem dX11_die_128 : decode cX11_die 128 = .ok (.invokevirtual 124, 3) := by decide +kernel
theorem dX11_die_131 : decode cX11_die 131 = .ok (.istore 8, 2) := by decide +kernel
theorem dX11_die_133 : decode cX11_die 133 = .ok (.aload 7, 2) := by decide +kernel
theorem dX11_die_135 : decode cX11_die 135 = .ok (.aload 5, 2) := by decide +kernel
theorem dX11_die_137 : decode cX11_die 137 = .ok (.iload 8, 2) := by decide +kernel
theorem dX11_die_139 : decode cX11_die 139 = .ok (.invokevirtual 139, 3) := by decide +kernel
theorem dX11_die_142 : decode cX11_die 142 = .ok (.putfield 142, 3) := by decide +kernel
theorem dX11_die_145 : decode cX11_die 145 = .ok (.aload_n 0, 1) := by decide +kernel
theorem dX11_die_146 : decode cX11_die 146 = .ok (.iload 8, 2) := by decide +kernel
theorem dX11_die_148 : decode cX11_die 148 = .ok (.invokevirtual 57, 3) := by decide +kernel
theorem dX11_die_151 : decode cX11_die 151 = .ok (.ireturn, 1) := by decide +kernel
theorem dX11_rule_0 : decode cX11_rule 0 = .ok (.aload_n 0, 1) := by decide +kernel
theorem dX11_rule_1 : decode cX11_rule 1 = .ok (.iload_n 1, 1) := by decide +kernel
theorem dX11_rule_2 : decode cX11_rule 2 = .ok (.invokevirtual 65, 3) := by decide +kernel
theorem dX11_rule_5 : decode cX11_rule 5 = .ok (.astore_n 3, 1) := by decide +kernel
theorem dX11_rule_6 : decode cX11_rule 6 = .ok (.aload_n 3, 1) := by decide +kernel
theorem dX11_rule_7 : decode cX11_rule 7 = .ok (.ifnonnull 9, 3) := by decide +kernel
theorem dX11_rule_10 : decode cX11_rule 10 = .ok (.aload_n 0, 1) := by decide +kernel
theorem dX11_rule_11 : decode cX11_rule 11 = .ok (.iconst 1, 1) := by decide +kernel
theorem dX11_rule_12 : decode cX11_rule 12 = .ok (.invokevirtual 47, 3) := by decide +kernel
theorem dX11_rule_15 : decode cX11_rule 15 = .ok (.ireturn, 1) := by decide +kernel
theorem dX11_rule_16 : decode cX11_rule 16 = .ok (.aload_n 3, 1) := by decide +kernel
theorem dX11_rule_17 : decode cX11_rule 17 = .ok (.invokevirtual 149, 3) := by decide +kernel
theorem dX11_rule_20 : decode cX11_rule 20 = .ok (.astore 4, 2) := by decide +kernel
theorem dX11_rule_22 : decode cX11_rule 22 = .ok (.aload 4, 2) := by decide +kernel
theorem dX11_rule_24 : decode cX11_rule 24 = .ok (.ifnonnull 19, 3) := by decide +kernel
theorem dX11_rule_27 : decode cX11_rule 27 = .ok (.iload_n 2, 1) := by decide +kernel
theorem dX11_rule_28 : decode cX11_rule 28 = .ok (.aload_n 3, 1) := by decide +kernel
theorem dX11_rule_29 : decode cX11_rule 29 = .ok (.getfield 153, 3) := by decide +kernel
theorem dX11_rule_32 : decode cX11_rule 32 = .ok (.if_icmp .ne 7, 3) := by decide +kernel
theorem dX11_rule_35 : decode cX11_rule 35 = .ok (.iconst 1, 1) := by decide +kernel
theorem dX11_rule_36 : decode cX11_rule 36 = .ok (.goto 21, 3) := by decide +kernel
theorem dX11_rule_39 : decode cX11_rule 39 = .ok (.iconst 0, 1) := by decide +kernel
theorem dX11_rule_40 : decode cX11_rule 40 = .ok (.goto 17, 3) := by decide +kernel
theorem dX11_rule_43 : decode cX11_rule 43 = .ok (.iload_n 2, 1) := by decide +kernel
theorem dX11_rule_44 : decode cX11_rule 44 = .ok (.aload 4, 2) := by decide +kernel
theorem dX11_rule_46 : decode cX11_rule 46 = .ok (.getfield 156, 3) := by decide +kernel
theorem dX11_rule_49 : decode cX11_rule 49 = .ok (.if_icmp .le 7, 3) := by decide +kernel
theorem dX11_rule_52 : decode cX11_rule 52 = .ok (.iconst 1, 1) := by decide +kernel
theorem dX11_rule_53 : decode cX11_rule 53 = .ok (.goto 4, 3) := by decide +kernel
theorem dX11_rule_56 : decode cX11_rule 56 = .ok (.iconst 0, 1) := by decide +kernel
theorem dX11_rule_57 : decode cX11_rule 57 = .ok (.istore 5, 2) := by decide +kernel
theorem dX11_rule_59 : decode cX11_rule 59 = .ok (.aload_n 3, 1) := by decide +kernel
theorem dX11_rule_60 : decode cX11_rule 60 = .ok (.iload_n 2, 1) := by decide +kernel
theorem dX11_rule_61 : decode cX11_rule 61 = .ok (.invokevirtual 103, 3) := by decide +kernel
theorem dX11_rule_64 : decode cX11_rule 64 = .ok (.ifCond .eq 8, 3) := by decide +kernel
theorem dX11_rule_67 : decode cX11_rule 67 = .ok (.iload 5, 2) := by decide +kernel
theorem dX11_rule_69 : decode cX11_rule 69 = .ok (.ifCond .ne 9, 3) := by decide +kernel
theorem dX11_rule_72 : decode cX11_rule 72 = .ok (.aload_n 0, 1) := by decide +kernel
theorem dX11_rule_73 : decode cX11_rule 73 = .ok (.iconst 3, 1) := by decide +kernel
theorem dX11_rule_74 : decode cX11_rule 74 = .ok (.invokevirtual 47, 3) := by decide +kernel
theorem dX11_rule_77 : decode cX11_rule 77 = .ok (.ireturn, 1) := by decide +kernel
theorem dX11_rule_78 : decode cX11_rule 78 = .ok (.aload_n 3, 1) := by decide +kernel
theorem dX11_rule_79 : decode cX11_rule 79 = .ok (.getfield 161, 3) := by decide +kernel
theorem dX11_rule_82 : decode cX11_rule 82 = .ok (.bipush 16, 2) := by decide +kernel
theorem dX11_rule_84 : decode cX11_rule 84 = .ok (.if_icmp .lt 10, 3) := by decide +kernel
theorem dX11_rule_87 : decode cX11_rule 87 = .ok (.aload_n 0, 1) := by decide +kernel
theorem dX11_rule_88 : decode cX11_rule 88 = .ok (.bipush 9, 2) := by decide +kernel
theorem dX11_rule_90 : decode cX11_rule 90 = .ok (.invokevirtual 47, 3) := by decide +kernel
theorem dX11_rule_93 : decode cX11_rule 93 = .ok (.ireturn, 1) := by decide +kernel
theorem dX11_rule_94 : decode cX11_rule 94 = .ok (.aload_n 3, 1) := by decide +kernel
theorem dX11_rule_95 : decode cX11_rule 95 = .ok (.getfield 164, 3) := by decide +kernel
theorem dX11_rule_98 : decode cX11_rule 98 = .ok (.aload_n 3, 1) := by decide +kernel
theorem dX11_rule_99 : decode cX11_rule 99 = .ok (.getfield 161, 3) := by decide +kernel
theorem dX11_rule_102 : decode cX11_rule 102 = .ok (.new 157, 3) := by decide +kernel
theorem dX11_rule_105 : decode cX11_rule 105 = .ok (.dup, 1) := by decide +kernel
theorem dX11_rule_106 : decode cX11_rule 106 = .ok (.iload_n 2, 1) := by decide +kernel
theorem dX11_rule_107 : decode cX11_rule 107 = .ok (.aload 4, 2) := by decide +kernel
theorem dX11_rule_109 : decode cX11_rule 109 = .ok (.invokespecial 168, 3) := by decide +kernel
theorem dX11_rule_112 : decode cX11_rule 112 = .ok (.aastore, 1) := by decide +kernel
theorem dX11_rule_113 : decode cX11_rule 113 = .ok (.aload_n 3, 1) := by decide +kernel
theorem dX11_rule_114 : decode cX11_rule 114 = .ok (.dup, 1) := by decide +kernel
theorem dX11_rule_115 : decode cX11_rule 115 = .ok (.getfield 161, 3) := by decide +kernel
theorem dX11_rule_118 : decode cX11_rule 118 = .ok (.iconst 1, 1) := by decide +kernel
theorem dX11_rule_119 : decode cX11_rule 119 = .ok (.iadd, 1) := by decide +kernel
theorem dX11_rule_120 : decode cX11_rule 120 = .ok (.putfield 161, 3) := by decide +kernel
theorem dX11_rule_123 : decode cX11_rule 123 = .ok (.aload_n 0, 1) := by decide +kernel
theorem dX11_rule_124 : decode cX11_rule 124 = .ok (.aload_n 3, 1) := by decide +kernel
theorem dX11_rule_125 : decode cX11_rule 125 = .ok (.getfield 161, 3) := by decide +kernel
theorem dX11_rule_128 : decode cX11_rule 128 = .ok (.invokevirtual 57, 3) := by decide +kernel
theorem dX11_rule_131 : decode cX11_rule 131 = .ok (.ireturn, 1) := by decide +kernel
theorem dX11_leaf_0 : decode cX11_leaf 0 = .ok (.aload_n 0, 1) := by decide +kernel
theorem dX11_leaf_1 : decode cX11_leaf 1 = .ok (.iload_n 1, 1) := by decide +kernel
theorem dX11_leaf_2 : decode cX11_leaf 2 = .ok (.invokevirtual 65, 3) := by decide +kernel
theorem dX11_leaf_5 : decode cX11_leaf 5 = .ok (.astore 5, 2) := by decide +kernel
theorem dX11_leaf_7 : decode cX11_leaf 7 = .ok (.aload 5, 2) := by decide +kernel
theorem dX11_leaf_9 : decode cX11_leaf 9 = .ok (.ifnonnull 9, 3) := by decide +kernel
theorem dX11_leaf_12 : decode cX11_leaf 12 = .ok (.aload_n 0, 1) := by decide +kernel
theorem dX11_leaf_13 : decode cX11_leaf 13 = .ok (.iconst 1, 1) := by decide +kernel
theorem dX11_leaf_14 : decode cX11_leaf 14 = .ok (.invokevirtual 47, 3) := by decide +kernel
theorem dX11_leaf_17 : decode cX11_leaf 17 = .ok (.ireturn, 1) := by decide +kernel
theorem dX11_leaf_18 : decode cX11_leaf 18 = .ok (.iload_n 3, 1) := by decide +kernel
theorem dX11_leaf_19 : decode cX11_leaf 19 = .ok (.ifCond .lt 20, 3) := by decide +kernel
theorem dX11_leaf_22 : decode cX11_leaf 22 = .ok (.iload_n 3, 1) := by decide +kernel
theorem dX11_leaf_23 : decode cX11_leaf 23 = .ok (.iconst 3, 1) := by decide +kernel
theorem dX11_leaf_24 : decode cX11_leaf 24 = .ok (.if_icmp .ge 15, 3) := by decide +kernel
theorem dX11_leaf_27 : decode cX11_leaf 27 = .ok (.iload 4, 2) := by decide +kernel
theorem dX11_leaf_29 : decode cX11_leaf 29 = .ok (.ifCond .lt 10, 3) := by decide +kernel
theorem dX11_leaf_32 : decode cX11_leaf 32 = .ok (.iload 4, 2) := by decide +kernel
theorem dX11_leaf_34 : decode cX11_leaf 34 = .ok (.bipush 6, 2) := by decide +kernel
theorem dX11_leaf_36 : decode cX11_leaf 36 = .ok (.if_icmp .le 9, 3) := by decide +kernel
theorem dX11_leaf_39 : decode cX11_leaf 39 = .ok (.aload_n 0, 1) := by decide +kernel
theorem dX11_leaf_40 : decode cX11_leaf 40 = .ok (.iconst 2, 1) := by decide +kernel
theorem dX11_leaf_41 : decode cX11_leaf 41 = .ok (.invokevirtual 47, 3) := by decide +kernel
theorem dX11_leaf_44 : decode cX11_leaf 44 = .ok (.ireturn, 1) := by decide +kernel
theorem dX11_leaf_45 : decode cX11_leaf 45 = .ok (.aload 5, 2) := by decide +kernel
theorem dX11_leaf_47 : decode cX11_leaf 47 = .ok (.iload_n 2, 1) := by decide +kernel
theorem dX11_leaf_48 : decode cX11_leaf 48 = .ok (.invokevirtual 103, 3) := by decide +kernel
theorem dX11_leaf_51 : decode cX11_leaf 51 = .ok (.ifCond .ne 9, 3) := by decide +kernel
theorem dX11_leaf_54 : decode cX11_leaf 54 = .ok (.aload_n 0, 1) := by decide +kernel
theorem dX11_leaf_55 : decode cX11_leaf 55 = .ok (.iconst 3, 1) := by decide +kernel
theorem dX11_leaf_56 : decode cX11_leaf 56 = .ok (.invokevirtual 47, 3) := by decide +kernel
theorem dX11_leaf_59 : decode cX11_leaf 59 = .ok (.ireturn, 1) := by decide +kernel
theorem dX11_leaf_60 : decode cX11_leaf 60 = .ok (.aload 5, 2) := by decide +kernel
theorem dX11_leaf_62 : decode cX11_leaf 62 = .ok (.getfield 178, 3) := by decide +kernel
theorem dX11_leaf_65 : decode cX11_leaf 65 = .ok (.iload_n 2, 1) := by decide +kernel
theorem dX11_leaf_66 : decode cX11_leaf 66 = .ok (.new 182, 3) := by decide +kernel
theorem dX11_leaf_69 : decode cX11_leaf 69 = .ok (.dup, 1) := by decide +kernel
theorem dX11_leaf_70 : decode cX11_leaf 70 = .ok (.iload_n 3, 1) := by decide +kernel
theorem dX11_leaf_71 : decode cX11_leaf 71 = .ok (.iload 4, 2) := by decide +kernel
theorem dX11_leaf_73 : decode cX11_leaf 73 = .ok (.invokespecial 184, 3) := by decide +kernel
theorem dX11_leaf_76 : decode cX11_leaf 76 = .ok (.aastore, 1) := by decide +kernel
theorem dX11_leaf_77 : decode cX11_leaf 77 = .ok (.aload 5, 2) := by decide +kernel
theorem dX11_leaf_79 : decode cX11_leaf 79 = .ok (.getfield 187, 3) := by decide +kernel
theorem dX11_leaf_82 : decode cX11_leaf 82 = .ok (.invokevirtual 191, 3) := by decide +kernel
theorem dX11_leaf_85 : decode cX11_leaf 85 = .ok (.aload_n 0, 1) := by decide +kernel
theorem dX11_leaf_86 : decode cX11_leaf 86 = .ok (.iload 4, 2) := by decide +kernel
theorem dX11_leaf_88 : decode cX11_leaf 88 = .ok (.invokevirtual 57, 3) := by decide +kernel
theorem dX11_leaf_91 : decode cX11_leaf 91 = .ok (.ireturn, 1) := by decide +kernel
theorem wd_542 : Cond.classLink RX2 18 RX9 ∈ lw_good := mem_t1 131 (by decide +kernel) rfl
theorem wd_543 : Cond.instantiable RX9 16 ∈ lw_good := mem_t2 180 (by decide +kernel) rfl
theorem wd_544 : Cond.code yX9_init cX9_init 6 none ∈ lw_good := mem_t2 183 rfl rfl
theorem wd_545 : Cond.methodLink RX2 105 yX9_init ∈ lw_good := mem_t2 181 (by decide +kernel) rfl
theorem wd_546 : Cond.instanceMethod yX9_init ∈ lw_good := mem_t2 182 (by decide +kernel) rfl
theorem wd_547 : Cond.fieldLink RX2 117 RX9 "number" "I" ∈ lw_good := mem_t2 186 (by decide +kernel) rfl
theorem wd_548 : Cond.fieldLink RX2 62 RX2 "number" "I" ∈ lw_good := mem_t1 208 (by decide +kernel) rfl
theorem wd_549 : Cond.methodLink RX11 96 yX5_forget ∈ lw_good := mem_t2 127 (by decide +kernel) rfl
theorem wd_550 : Cond.instanceMethod yX5_forget ∈ lw_good := mem_t2 128 (by decide +kernel) rfl
theorem wd_551 : Cond.selects RX5 yX5_forget yX5_forget ∈ lw_good := mem_t2 129 (by decide +kernel) rfl
theorem wd_552 : Cond.code yX5_forget cX5_forget 1 none ∈ lw_good := mem_t2 130 rfl rfl
theorem wd_553 : Cond.methodLink RX11 99 yX11_partnerAt ∈ lw_good := mem_t2 131 (by decide +kernel) rfl
theorem wd_554 : Cond.instanceMethod yX11_partnerAt ∈ lw_good := mem_t2 133 (by decide +kernel) rfl
theorem wd_555 : Cond.selects RX11 yX11_partnerAt yX11_partnerAt ∈ lw_good := mem_p 4 (by decide +kernel) rfl
theorem wd_556 : Cond.code yX11_partnerAt cX11_partnerAt 2 (some (.object "PartnersBook$Partner")) ∈ lw_good := mem_t2 134 rfl rfl
theorem wd_557 : Cond.methodLink RX11 106 yX2_isVacantFrom ∈ lw_good := mem_t2 142 (by decide +kernel) rfl
theorem wd_558 : Cond.instanceMethod yX2_isVacantFrom ∈ lw_good := mem_t2 143 (by decide +kernel) rfl
theorem wd_559 : Cond.selects RX2 yX2_isVacantFrom yX2_isVacantFrom ∈ lw_good := mem_t2 144 (by decide +kernel) rfl
theorem wd_560 : Cond.code yX2_isVacantFrom cX2_isVacantFrom 5 (some .boolean) ∈ lw_good := mem_t2 145 rfl rfl
theorem wd_561 : Cond.fieldLink RX11 110 RX4 "owner" "LPartnersBook$House;" ∈ lw_good := mem_t2 86 (by decide +kernel) rfl
theorem wd_562 : Cond.methodLink RX11 124 yX2_addTenure ∈ lw_good := mem_t2 176 (by decide +kernel) rfl
theorem wd_563 : Cond.instanceMethod yX2_addTenure ∈ lw_good := mem_t2 177 (by decide +kernel) rfl
theorem wd_564 : Cond.selects RX2 yX2_addTenure yX2_addTenure ∈ lw_good := mem_t2 178 (by decide +kernel) rfl
theorem wd_565 : Cond.code yX2_addTenure cX2_addTenure 6 (some .int) ∈ lw_good := mem_t2 179 rfl rfl
theorem wd_566 : Cond.fieldLink RX11 114 RX2 "number" "I" ∈ lw_good := mem_t1 209 (by decide +kernel) rfl
theorem wd_567 : Cond.methodLink RX11 117 yX5_trace ∈ lw_good := mem_t2 150 (by decide +kernel) rfl
theorem wd_568 : Cond.instanceMethod yX5_trace ∈ lw_good := mem_t2 151 (by decide +kernel) rfl
theorem wd_569 : Cond.selects RX5 yX5_trace yX5_trace ∈ lw_good := mem_t2 152 (by decide +kernel) rfl
theorem wd_570 : Cond.code yX5_trace cX5_trace 7 (some .boolean) ∈ lw_good := mem_t2 153 rfl rfl
theorem wd_571 : Cond.fieldLink RX11 136 RX4 "kind" "I" ∈ lw_good := mem_t2 80 (by decide +kernel) rfl
theorem wd_572 : Cond.fieldLink RX11 142 RX9 "heir" "LPartnersBook$Tenure;" ∈ lw_good := mem_t2 209 (by decide +kernel) rfl
theorem wd_573 : Cond.methodLink RX6 3 Lib.objectInit ∈ lw_good := mem_t3 51 (by decide +kernel) rfl
theorem wd_574 : Cond.fieldLink RX6 9 RX6 "day" "I" ∈ lw_good := mem_t3 55 (by decide +kernel) rfl
theorem wd_575 : Cond.methodLink RX6 22 arraycopyName ∈ lw_good := mem_t3 52 (by decide +kernel) rfl
theorem wd_576 : Cond.native arraycopyName ∈ lw_good := mem_t3 54 (by decide +kernel) rfl
theorem wd_577 : Cond.static arraycopyName ∈ lw_good := mem_t3 53 (by decide +kernel) rfl
theorem wd_578 : Cond.initialized "java/lang/System" ∈ lw_good := mem_t1 15 (by decide +kernel) rfl
theorem wd_579 : Cond.fieldLink RX11 164 RX2 "rules" "[LPartnersBook$Rule;" ∈ lw_good := mem_t1 231 (by decide +kernel) rfl
theorem wd_580 : Cond.classLink RX11 157 RX6 ∈ lw_good := mem_t3 46 (by decide +kernel) rfl
theorem wd_581 : Cond.instantiable RX6 3 ∈ lw_good := mem_t3 47 (by decide +kernel) rfl
theorem wd_582 : Cond.code yX6_init cX6_init 3 none ∈ lw_good := mem_t3 50 rfl rfl
theorem wd_583 : Cond.methodLink RX11 168 yX6_init ∈ lw_good := mem_t3 48 (by decide +kernel) rfl
theorem wd_584 : Cond.instanceMethod yX6_init ∈ lw_good := mem_t3 49 (by decide +kernel) rfl
theorem wd_585 : Cond.fieldLink RX11 156 RX6 "day" "I" ∈ lw_good := mem_t3 57 (by decide +kernel) rfl
theorem wd_586 : Cond.methodLink RX11 60 yX11_isLimitedKind ∈ lw_good := mem_t2 63 (by decide +kernel) rfl
theorem wd_587 : Cond.classLink RX11 15 RX4 ∈ lw_good := mem_t1 28 (by decide +kernel) rfl
theorem wd_588 : Cond.instantiable RX4 4 ∈ lw_good := mem_t2 71 (by decide +kernel) rfl
theorem wd_589 : Cond.code yX4_init cX4_init 5 none ∈ lw_good := mem_t2 74 rfl rfl
theorem wd_590 : Cond.methodLink RX11 72 yX4_init ∈ lw_good := mem_t2 72 (by decide +kernel) rfl
theorem wd_591 : Cond.instanceMethod yX4_init ∈ lw_good := mem_t2 73 (by decide +kernel) rfl
theorem wd_592 : Cond.classLink RX11 182 RX3 ∈ lw_good := mem_t3 85 (by decide +kernel) rfl
theorem wd_593 : Cond.instantiable RX3 3 ∈ lw_good := mem_t3 86 (by decide +kernel) rfl
theorem wd_594 : Cond.code yX3_init cX3_init 3 none ∈ lw_good := mem_t3 89 rfl rfl
theorem wd_595 : Cond.methodLink RX11 184 yX3_init ∈ lw_good := mem_t3 87 (by decide +kernel) rfl
theorem wd_596 : Cond.instanceMethod yX3_init ∈ lw_good := mem_t3 88 (by decide +kernel) rfl
section PCOPY
variable {p : Program} {l : Launch} {e : Env} {R : Room} {s : State} {m : MethodId} {args : Array Value} {below : List Frame} {meth : Method} {c : Code} {H : Heap} {locs : List Loc} {cells slots : Nat} {Q : State → Prop}
variable {cc : ByteArray} {pc : Nat} {ls : Array Slot} {rest : List Value} {D : va_G} {A : Nat → Prop} {a : Nat} {tys : List (ClassId × FieldType)} {E : va_W} {L : List Nat} {M : Hp} {H0 : Heap}
theorem pg_copyi (hexec : p.tables.exec = Jvm.exec) (hb : c.code = cc) (hml : c.maxLocals = ls.size) {own : String} {index : Nat} (hown : s.vm.findClass own = some m.cls) (hlink : (Cond.methodLink own index arraycopyName).before args s = true) (hnat : (Cond.native arraycopyName).before args s = true) (hstat : (Cond.static arraycopyName).before args s = true) (hini : (Cond.initialized "java/lang/System").before args s = true)
    (hK : va_K D vwCl tys s) (hP : va_P D vwCl (E ++ va_pl L M) H) (hD : va_D A (E ++ va_pl L M)) (hS : va_S A H0 H locs) {a0 : Nat} (haL : a0 ∈ L) (q1 t0 : Nat) {c0 : ClassId} {n0 n1 : Nat} {f g : Nat → Int32} (hM : M a0 = .inl (c0, n0, .inl f)) (ha1 : E[q1]? = some (a, .inl (c0, n1, .inl g))) (ht0 : tys[t0]? = some (c0, .int))
    {sp dp n : Int32} (h1 : ¬ sp < 0) (h2 : ¬ dp < 0) (h3 : ¬ n < 0) (h4 : sp.toNatClampNeg + n.toNatClampNeg ≤ n0) (h5 : dp.toNatClampNeg + n.toNatClampNeg ≤ n1)
    (hframes : 1 ≤ R.frames) (hlocals : (rest.map fun v => v.category).sum + (nativeFrameWords "java/lang/System" "arraycopy" 5 + 11) ≤ R.locals) (hdg : decode cc pc = .ok (.invokestatic index, 3))
    (kk : ∀ (H1 : Heap) (locs1 : List Loc), va_P D vwCl (E.set q1 (a, .inl (c0, n1, .inl (va_cpy f g sp.toNatClampNeg dp.toNatClampNeg n.toNatClampNeg))) ++ va_pl L M) H1 → va_D A (E.set q1 (a, .inl (c0, n1, .inl (va_cpy f g sp.toNatClampNeg dp.toNatClampNeg n.toNatClampNeg))) ++ va_pl L M) → va_S A H0 H1 locs1 → W p l e R s m args below meth c H1 locs1 cells slots Q (F0 m (pc + 3) ls rest)) : W p l e R s m args below meth c H locs cells slots Q (F0 m pc ls (.int n :: .int dp :: .ref a :: .int sp :: .ref a0 :: rest)) := by
  obtain ⟨q0, hq⟩ := va_pl_get (X := E) (f := M) haL
  rw [hM] at hq
  have hlt : q1 < E.length := (List.getElem?_eq_some_iff.mp ha1).1
  have hq1 : (E ++ va_pl L M)[q1]? = some (a, .inl (c0, n1, .inl g)) := by rw [List.getElem?_append_left hlt]; exact ha1
  refine va_copyi hexec hb hml hown hlink hnat hstat hini hK hP hD hS q0 q1 t0 t0 hq hq1 ht0 ht0 rfl h1 h2 h3 h4 h5 (fun _ _ => rfl) hframes hlocals hdg (fun H1 locs1 hP1 hD1 hS1 => ?_)
  rw [List.set_append_left _ _ hlt] at hP1 hD1
  exact kk H1 locs1 hP1 hD1 hS1
end PCOPY
set_option maxHeartbeats 4000000 in
set_option maxRecDepth 100000 in
theorem s_addTenure_0 (l : Launch) (D : va_G) (cy : Nat → ClassId) (K0 : Kp) (L0 : List Nat) (M0 : Hp) (sz : Nat) (oa : Nat) (k1 : Nat) (k2 : Int32) (k3 : Int32) (hW : WOK cy K0 L0 M0) (ia : isk K0 L0 oa 2 0) (ik1 : isk K0 L0 k1 4 0) : Met l yX2_addTenure (wsM yX2_addTenure cX2_addTenure 6 (some .int)) ({ frames := 2, cells := 1, slots := 16, locals := 37 }) (va_Pc [.ref oa, .ref k1, .int k2, .int k3, .int 0] (PG D cy [] L0 M0 sz)) (va_Qi (fun (r : Int32) (u : Kp × List Nat × Hp) => ext K0 L0 u.1 u.2.1 ∧ WOK cy u.1 u.2.1 u.2.2 ∧ fr K0 L0 [2, 61, 62] M0 u.2.2 ∧ fT 2 K0 L0 [9, 15] M0 u.2.2 ∧ (True)) (fun u t => PQ D [] u.2.1 u.2.2 (va_A ([] ++ va_pl L0 M0) sz) t) (va_A ([] ++ va_pl L0 M0) sz)) 1 16 (va_A ([] ++ va_pl L0 M0) sz) := by
  refine Met.ofW (cc := cX2_addTenure) (maxL := 6) (ret := (some .int)) (by decide) rfl ?_
  intro p e s m args below meth c s₁ B hml hv
  obtain ⟨rfl, hsz, hP, hK, hD0, hN⟩ := hv
  have hx := B.exec
  have hb := B.bytes
  have hr := B.returns
  have hts := atoms_spec (ws := (wsM yX2_addTenure cX2_addTenure 6 (some .int))) B.pre
  have hg : ∀ w ∈ lw_good, w.before _ s = true := fun w h => hts w (List.mem_cons_of_mem _ h)
  have hown : s.vm.findClass RX2 = some m.cls := findClass_of_methodNamed B.named
  have hlocks := B.notSynchronized
  subst hsz
  have hD := hD0.self (sz := s.heap.size)
  generalize hAe : va_A ([] ++ va_pl L0 M0) s.heap.size = A at hD ⊢
  have hA : ∀ q : Nat, s.heap.size ≤ q → A q := fun q h => by rw [← hAe]; exact Or.inr h
  have hS : va_S A s.heap s.heap [] := va_S.rf
  have hl := lv_entry ([.ref oa, .ref k1, .int k2, .int k3, .int 0]) (n := 6) (Nat.le_of_ble_eq_true rfl)
  rw [lg_entry_eq]
  generalize (lg_sl ([.ref oa, .ref k1, .int k2, .int k3, .int 0]) ++ List.replicate (6 - (lg_sl ([.ref oa, .ref k1, .int k2, .int k3, .int 0])).length) Slot.unset).toArray = ls at hl ⊢
  refine W.nameQ (fun Q hQ => ?_)
  refine W.nameR (fun R hR => ?_)
  have hRf : 2 ≤ R.frames := by rw [hR]; exact Nat.le_of_ble_eq_true rfl
  have hRl : 37 ≤ R.locals := by rw [hR]; exact Nat.le_of_ble_eq_true rfl
  have hRc : 1 ≤ R.cells := by rw [hR]; exact Nat.le_of_ble_eq_true rfl
  have hRs : 16 ≤ R.slots := by rw [hR]; exact Nat.le_of_ble_eq_true rfl
  obtain ⟨K, L, M, hX0, hF, hT2, hW, hP, hD, ia, ik1⟩ : ∃ (K : Kp) (L : List Nat) (M : Hp), ext K0 L0 K L ∧ fr K0 L0 [2, 61, 62] M0 M ∧ fT 2 K0 L0 [9, 15] M0 M ∧ WOK cy K L M ∧ va_P D vwCl ([] ++ va_pl L M) s.heap ∧ va_D A ([] ++ va_pl L M) ∧ isk K L oa 2 0 ∧ isk K L k1 4 0 := ⟨K0, L0, M0, ext.rf, fr.rf, fT.rf, hW, hP, hD, ia, ik1⟩
  have hl : lv_has ls 6 [(0, .ref oa), (1, .ref k1), (2, .int k2), (3, .int k3), (4, .int 0)] := hl
  refine lv_aload_n hx hb dX2_addTenure_0 rfl (lv_at hl 0 rfl) ?_
  obtain ⟨v1_0, v1_1, v1_2, v1_3, v1_4, v1_5, v1_6, v1_7, v1_8, v1_9, v1_10, v1_11, v1_12, v1_13, v1_14, v1_15, v1_16, v1_17, v1_18, v1_19, hM1, h1_3, h1_4, h1_5, h1_6, h1_7, h1_8, h1_9, h1_10, h1_11, h1_12, h1_13, h1_16, h1_17, h1_18, h1_19⟩ := hW.open_2 ia
  refine pg_get (D := D) (ci := 2) (v := .int (nI v1_9)) (C := RX2) (T := TX2) (N := 20) hx hb hg inG2 hown hK hP ia.1 hM1 rfl 9 (by decide) (hg _ wd_44) (fun _ h9 => h9) rfl dX2_addTenure_1 ?_
  refine lv_bipush (v := 24) hx hb dX2_addTenure_4 (by decide) ?_
  refine lv_icmp_ge (tgt := 16) hx hb dX2_addTenure_6 (by decide) (fun c_2 => ?_) (fun c_2 => ?_)
  · have hz := rfl (a := 0)
    have n_3 : 24 ≤ v1_9 := (iLE (a := 24) (b := v1_9) (by omega) (by omega)).mp c_2
    refine lv_iconst (v := (-1)) hx hb dX2_addTenure_16 (by decide) ?_
    refine W.widen (k := 1) (n := 16) (Nat.le_of_ble_eq_true rfl) (Nat.le_of_ble_eq_true rfl) ?_
    rw [hQ]
    exact W.iret (v := (-1)) hx hb hr (fun t ht hW9 => ⟨⟨(-1), (K, L, M), rfl, ⟨hX0, hW, hF, hT2, trivial⟩, ⟨by rw [ht]; exact hP, hD⟩⟩, hS.F ht⟩) hS.2.2 dX2_addTenure_17
  · have hz := rfl (a := 0)
    have n_4 : ¬ (24 ≤ v1_9) := fun q => c_2 ((iLE (a := 24) (b := v1_9) (by omega) (by omega)).mpr q)
    refine lv_iload_n hx hb dX2_addTenure_9 rfl (lv_at hl 2 rfl) ?_
    have hPc : va_P D vwCl ([] ++ va_pl L M) s.heap := hP
    have hDc : va_D A ([] ++ va_pl L M) := hD
    have hFc : ∀ q, va_A ([] ++ va_pl L M) s.heap.size q → A q := pg_free hDc hS hA
    refine va_calli (va_runSN (As := [.int k2]) (rest := []) ⟨hx, hb, hml, hown, hg⟩ (s_X11_isSeat l D cy K L M s.heap.size k2  hW ) ⟨va_cnB 1 hg (gB wd_46) rfl rfl rfl (hN _ (List.mem_of_getElem? (i := 3) rfl) : va_Nw (Cond.methodLinkNest RX2 88 yX11_isSeat RX11) s) (hg _ wd_3) (by decide +kernel) ⟨(Nat.le_trans (Nat.le_of_ble_eq_true rfl) hRf), (Nat.le_trans (Nat.le_of_ble_eq_true rfl) hRl)⟩, hg _ wd_47, trivial⟩ ⟨PG.blind, fun U hU hW => ⟨rfl, PG.at hPc hK hDc hN hU hW⟩⟩ rfl rfl hl.1 rfl (lv_room (Nat.le_of_ble_eq_true rfl)) dX2_addTenure_10 ⟨(Nat.le_trans (Nat.le_of_ble_eq_true rfl) hRc), (Nat.le_trans (Nat.le_of_ble_eq_true rfl) hRs)⟩) hS (fun q _ h => hFc q h) hFc (fun r_6 M_7 t H_5 locs ht hvm hw hB hz1 hk1 hS => ?_)
    have hp_8 := hw
    obtain ⟨hP1, hD1⟩ := hB
    rw [ht] at hP1
    have hP : va_P D vwCl ([] ++ va_pl L M) H_5 := hP1
    have hD : va_D A ([] ++ va_pl L M) := hD1.mono hFc
    rcases hp_8 with ⟨rfl, c_9, c_10⟩ | rfl
    · have hz := rfl (a := 0)
      refine lv_if_ne (tgt := 18) hx hb dX2_addTenure_13 (by decide) (fun _ => ?_) (fun c_11 => absurd c_11 (by decide))
      refine va_new (ci := 9) (fs := [.int 0, .null, .int 0, .int 0, .int 0, .int 0, .int 0, .int 0, .null, .long 0, .long 0, .long 0, .long 0, .long 0, .long 0, .long 0]) (C := RX9) (T := TX9) (N := 16) hx hb hg inG9 tyX9 tyX9_ok hown (hg _ wd_542) (hg _ wd_543) (hg _ wd_52) hK hP hD hS hA rfl dfX9 (Nat.le_trans (Nat.le_of_ble_eq_true rfl) hRc) (Nat.le_trans (Nat.le_of_ble_eq_true rfl) hRs) dX2_addTenure_18 (fun q_12 H_13 hP hD hS => ?_)
      have hP : va_P D vwCl ([(q_12, .inr (9, [.int 0, .null, .int 0, .int 0, .int 0, .int 0, .int 0, .int 0, .null, .long 0, .long 0, .long 0, .long 0, .long 0, .long 0, .long 0]))] ++ va_pl L M) H_13 := hP.swap
      have hD : va_D A ([(q_12, .inr (9, [.int 0, .null, .int 0, .int 0, .int 0, .int 0, .int 0, .int 0, .null, .long 0, .long 0, .long 0, .long 0, .long 0, .long 0, .long 0]))] ++ va_pl L M) := hD.swap
      refine W.widen (k := 1) (n := 16) (Nat.le_of_ble_eq_true rfl) (Nat.le_of_ble_eq_true rfl) ?_
      refine lv_dup hx hb dX2_addTenure_21 rfl ?_
      refine lv_aload_n hx hb dX2_addTenure_22 rfl (lv_at hl 0 rfl) ?_
      refine pg_get (D := D) (ci := 2) (v := .int (nI v1_9)) (C := RX2) (T := TX2) (N := 20) hx hb hg inG2 hown hK hP ia.1 hM1 rfl 9 (by decide) (hg _ wd_44) (fun _ h9 => h9) rfl dX2_addTenure_23 ?_
      refine lv_aload_n hx hb dX2_addTenure_26 rfl (lv_at hl 1 rfl) ?_
      refine lv_iload_n hx hb dX2_addTenure_27 rfl (lv_at hl 2 rfl) ?_
      refine lv_iload_n hx hb dX2_addTenure_28 rfl (lv_at hl 3 rfl) ?_
      refine lv_iload hx hb dX2_addTenure_29 (lv_at hl 4 rfl) ?_
      have hPc := hP.sub (ws' := [(q_12, .inr (9, [.int 0, .null, .int 0, .int 0, .int 0, .int 0, .int 0, .int 0, .null, .long 0, .long 0, .long 0, .long 0, .long 0, .long 0, .long 0]))]) [0] rfl
      have hDc := hD.sub (ws' := [(q_12, .inr (9, [.int 0, .null, .int 0, .int 0, .int 0, .int 0, .int 0, .int 0, .null, .long 0, .long 0, .long 0, .long 0, .long 0, .long 0, .long 0]))]) [0] (by decide) rfl
      have hKc := hK.sub (tys' := []) [] rfl
      have hFc := va_free (wc := [(q_12, .inr (9, [.int 0, .null, .int 0, .int 0, .int 0, .int 0, .int 0, .int 0, .null, .long 0, .long 0, .long 0, .long 0, .long 0, .long 0, .long 0]))]) hD hS hA [0] rfl
      refine va_callv (va_runI (As := [.int (nI v1_9), .ref k1, .int k2, .int k3, .int 0]) (rest := [.ref q_12]) ⟨hx, hb, hml, hown, hg⟩ (k_Tenure_0 l D H_13.size q_12 (nI v1_9) k1 k2 k3) (cwI 5 hg (gB wd_544) rfl rfl rfl (hg _ wd_52) (hg _ wd_545) (hg _ wd_546) rfl (by decide +kernel) ⟨(Nat.le_trans (Nat.le_of_ble_eq_true rfl) hRf), (Nat.le_trans (Nat.le_of_ble_eq_true rfl) hRl)⟩) ⟨Pr.blind, fun U hU hW => ⟨rfl, Pr.at hPc hKc hDc hN hU hW⟩⟩ rfl rfl hl.1 rfl (lv_room (Nat.le_of_ble_eq_true rfl)) dX2_addTenure_31 ⟨(Nat.le_trans (Nat.le_of_ble_eq_true rfl) hRc), (Nat.le_trans (Nat.le_of_ble_eq_true rfl) hRs)⟩) hS (fun q _ h => hFc q h) hFc (fun M_16 t H_14 locs ht hvm hw hB hz1 hk1 hS => ?_)
      have hp_17 := hw
      obtain ⟨hP1, hK1, hD1⟩ := hB
      rw [ht] at hP1
      obtain ⟨hP, hD⟩ := va_joinQ (X := [(q_12, .inr (9, [.int 0, .null, .int 0, .int 0, .int 0, .int 0, .int 0, .int 0, .null, .long 0, .long 0, .long 0, .long 0, .long 0, .long 0, .long 0]))]) (cx := [(q_12, .inr (9, [.int 0, .null, .int 0, .int 0, .int 0, .int 0, .int 0, .int 0, .null, .long 0, .long 0, .long 0, .long 0, .long 0, .long 0, .long 0]))]) (wr := []) (w1 := [(q_12, .inr (9, [.int (nI v1_9), .ref k1, .int k2, .int k3, .int 0, .int (-1), .int 0, .int 0, .null, .long 0, .long 0, .long 0, .long 0, .long 0, .long 0, .long 0]))]) (pl := va_pl L M) hP hD [0] [] rfl rfl (by decide) (by decide) hk1 hFc hP1 hD1
      have hP : va_P D vwCl ([(q_12, .inr (9, [.int (nI v1_9), .ref k1, .int k2, .int k3, .int 0, .int (-1), .int 0, .int 0, .null, .long 0, .long 0, .long 0, .long 0, .long 0, .long 0, .long 0]))] ++ va_pl L M) H_14 := hP
      have hD : va_D A ([(q_12, .inr (9, [.int (nI v1_9), .ref k1, .int k2, .int k3, .int 0, .int (-1), .int 0, .int 0, .null, .long 0, .long 0, .long 0, .long 0, .long 0, .long 0, .long 0]))] ++ va_pl L M) := hD
      have hP : va_P D vwCl (([] ++ [(q_12, .inr (9, [.int (nI v1_9), .ref k1, .int k2, .int k3, .int 0, .int (-1), .int 0, .int 0, .null, .long 0, .long 0, .long 0, .long 0, .long 0, .long 0, .long 0]))]) ++ va_pl L M) H_14 := hP.part (cx := [] ++ [(q_12, .inr (9, [.int (nI v1_9), .ref k1, .int k2, .int k3, .int 0, .int (-1), .int 0, .int 0, .null, .long 0, .long 0, .long 0, .long 0, .long 0, .long 0, .long 0]))]) [0] rfl
      have hD : va_D A (([] ++ [(q_12, .inr (9, [.int (nI v1_9), .ref k1, .int k2, .int k3, .int 0, .int (-1), .int 0, .int 0, .null, .long 0, .long 0, .long 0, .long 0, .long 0, .long 0, .long 0]))]) ++ va_pl L M) := hD.part (cx := [] ++ [(q_12, .inr (9, [.int (nI v1_9), .ref k1, .int k2, .int k3, .int 0, .int (-1), .int 0, .int 0, .null, .long 0, .long 0, .long 0, .long 0, .long 0, .long 0, .long 0]))]) [0] (by decide) rfl
      obtain ⟨K9, L9, M_18, hx9, i_19, hW, hP, hD, hM_20, hfr9, hq9⟩ := adoptE 9 0 hP hD hW (fun K' L' x i => (⟨v1_9, k1, k2, k3, 0, (-1), 0, 0, none, 0, 0, 0, 0, 0, 0, 0, rfl, (by omega), ik1.ext x, (Or.inl rfl), iskN.none⟩ : gd_9 K' L' _))
      have hM_21 : M_18 oa = .inr (2, [.int v1_0, .int v1_1, .int v1_2, .ref v1_3, .int (nI v1_4), .int (nI v1_5), .ref v1_6, .ref v1_7, .ref v1_8, .int (nI v1_9), .ref v1_10, .int (nI v1_11), .ref v1_12, .ref v1_13, .long v1_14, .int v1_15, .ref v1_16, .ref v1_17, .ref v1_18, .ref v1_19]) := (hfr9 _ ia.1).trans hM1
      have hF : fr K0 L0 [2, 61, 62] M0 M_18 := hF.adX hX0 hfr9
      have hT2 : fT 2 K0 L0 [9, 15] M0 M_18 := hT2.adX hX0 hfr9
      have hX0 := hX0.tr hx9
      have i_22 := ia.ext hx9
      have i_23 := ik1.ext hx9
      have i_24 := h1_3.ext hx9
      have i_25 := h1_6.ext hx9
      have i_26 := h1_7.ext hx9
      have i_27 := h1_8.ext hx9
      have i_28 := h1_10.ext hx9
      have i_29 := h1_12.ext hx9
      have i_30 := h1_13.ext hx9
      have i_31 := h1_16.ext hx9
      have i_32 := h1_17.ext hx9
      have i_33 := h1_18.ext hx9
      have i_34 := h1_19.ext hx9
      obtain ⟨K, L, hK9, hL9⟩ : ∃ (K : Kp) (L : List Nat), K = K9 ∧ L = L9 := ⟨_, _, rfl, rfl⟩
      subst hK9
      subst hL9
      have hP : va_P D vwCl ([] ++ va_pl L M_18) H_14 := hP
      have hD : va_D A ([] ++ va_pl L M_18) := hD
      refine lv_astore (lv' := [(5, .ref q_12), (0, .ref oa), (1, .ref k1), (2, .int k2), (3, .int k3), (4, .int 0)]) hx hb dX2_addTenure_34 hl (by decide) rfl (fun ls hl => ?_)
      refine lv_aload_n hx hb dX2_addTenure_36 rfl (lv_at hl 1 rfl) ?_
      refine pg_get (D := D) (ci := 2) (v := .ref v1_8) (C := RX2) (T := TX2) (N := 20) hx hb hg inG2 hown hK hP i_22.1 hM_21 rfl 8 (by decide) (hg _ wd_45) (fun _ h9 => h9) rfl dX2_addTenure_37 ?_
      refine lv_aload_n hx hb dX2_addTenure_40 rfl (lv_at hl 1 rfl) ?_
      refine pg_get (D := D) (ci := 2) (v := .int (nI v1_9)) (C := RX2) (T := TX2) (N := 20) hx hb hg inG2 hown hK hP i_22.1 hM_21 rfl 9 (by decide) (hg _ wd_44) (fun _ h9 => h9) rfl dX2_addTenure_41 ?_
      refine lv_aload hx hb dX2_addTenure_44 (lv_at hl 0 rfl) ?_
      obtain ⟨f35, hM35, hf35⟩ := hW.open_62 i_27
      obtain ⟨v37_0, v37_1, v37_2, v37_3, v37_4, v37_5, v37_6, v37_7, v37_8, v37_9, v37_10, v37_11, v37_12, v37_13, v37_14, v37_15, hM37, h37_0, h37_1, h37_4, h37_8⟩ := hW.open_9 i_19
      refine pg_astq (r := (RX9, TX9, 16)) hx hb hK hP hD hS i_27.1 8 9 hM35 rfl i_19.1 hM37 rfl (inbN v1_9 24 (by omega) (by omega)) dX2_addTenure_46 (fun H_36 locs hP hD hS => ?_)
      obtain ⟨M_38, eM_38⟩ : ∃ M1 : Hp, M1 = va_up M_18 v1_8 (.inl (cy 22, 24, .inr (.inr (.inr (.inr (va_up f35 ((nI v1_9) : Int32).toNatClampNeg (some q_12))))))) := ⟨_, rfl⟩
      have hP : va_P D vwCl ([] ++ va_pl L M_38) H_36 := by rw [eM_38]; exact hP
      have hD : va_D A ([] ++ va_pl L M_38) := by rw [eM_38]; exact hD
      have hW : WOK cy K L M_38 := by rw [eM_38]; exact hW.up_62 i_27 ⟨_, rfl, (upN hf35 i_19)⟩
      have hF : fr K0 L0 [2, 61, 62] M0 M_38 := by rw [eM_38]; exact hF.upX hX0 i_27 (by decide)
      have hT2 : fT 2 K0 L0 [9, 15] M0 M_38 := by rw [eM_38]; exact hT2.neX hX0 i_27 (by decide)
      have hM_39 : M_38 v1_8 = .inl (cy 22, 24, .inr (.inr (.inr (.inr (va_up f35 ((nI v1_9) : Int32).toNatClampNeg (some q_12)))))) := by rw [eM_38]; exact va_up_self _ _ _
      have hM_40 : M_38 oa = .inr (2, [.int v1_0, .int v1_1, .int v1_2, .ref v1_3, .int (nI v1_4), .int (nI v1_5), .ref v1_6, .ref v1_7, .ref v1_8, .int (nI v1_9), .ref v1_10, .int (nI v1_11), .ref v1_12, .ref v1_13, .long v1_14, .int v1_15, .ref v1_16, .ref v1_17, .ref v1_18, .ref v1_19]) := by rw [eM_38, va_up_ne _ _ (i_22.neT i_27 (by decide))]; exact hM_21
      have hM_41 : M_38 q_12 = .inr (9, [.int (nI v37_0), .ref v37_1, .int v37_2, .int v37_3, .int v37_4, .int v37_5, .int v37_6, .int v37_7, va_rf v37_8, .long v37_9, .long v37_10, .long v37_11, .long v37_12, .long v37_13, .long v37_14, .long v37_15]) := by rw [eM_38, va_up_ne _ _ (i_19.neT i_27 (by decide))]; exact hM37
      have hf_43 : ∀ j, j < 24 → iskN K L ((va_up f35 ((nI v1_9) : Int32).toNatClampNeg (some q_12)) j) 9 0 := (upN hf35 i_19)
      obtain ⟨f_42, ef_42⟩ : ∃ f : Nat → Option Nat, f = va_up f35 ((nI v1_9) : Int32).toNatClampNeg (some q_12) := ⟨_, rfl⟩
      rw [← ef_42] at hM_39 hf_43
      have hk_44 : f_42 ((nI v1_9) : Int32).toNatClampNeg = some q_12 := by rw [ef_42]; exact va_up_self _ _ _
      clear ef_42
      refine lv_aload_n hx hb dX2_addTenure_47 rfl (lv_at hl 1 rfl) ?_
      refine lv_dup hx hb dX2_addTenure_48 rfl ?_
      refine pg_get (D := D) (ci := 2) (v := .int (nI v1_9)) (C := RX2) (T := TX2) (N := 20) hx hb hg inG2 hown hK hP i_22.1 hM_40 rfl 9 (by decide) (hg _ wd_44) (fun _ h9 => h9) rfl dX2_addTenure_49 ?_
      refine lv_iconst (v := 1) hx hb dX2_addTenure_52 (by decide) ?_
      refine lv_iadd hx hb dX2_addTenure_53 ?_
      refine lv_topi (fun f_45 ef_45 => ?_)
      obtain rfl : f_45 = (nI (v1_9 + 1)) := ef_45.trans (nI_add v1_9 1)
      refine pg_put (D := D) (ci := 2) (v := .int (nI (v1_9 + 1))) (ty := .int) (C := RX2) (T := TX2) (N := 20) hx hb hg inG2 tyX2 tyX2_ok nmX2 hown hK hP hD hS i_22.1 hM_40 rfl 9 (by decide) (hg _ wd_44) (fun _ h9 => h9) rfl (by decide +kernel) rfl rfl (Nat.le_of_ble_eq_true rfl) dX2_addTenure_54 (fun H_46 locs hP hD hS => ?_)
      obtain ⟨M_47, eM_47⟩ : ∃ M1 : Hp, M1 = va_up M_38 oa (.inr (2, [.int v1_0, .int v1_1, .int v1_2, .ref v1_3, .int (nI v1_4), .int (nI v1_5), .ref v1_6, .ref v1_7, .ref v1_8, .int (nI (v1_9 + 1)), .ref v1_10, .int (nI v1_11), .ref v1_12, .ref v1_13, .long v1_14, .int v1_15, .ref v1_16, .ref v1_17, .ref v1_18, .ref v1_19])) := ⟨_, rfl⟩
      have hP : va_P D vwCl ([] ++ va_pl L M_47) H_46 := by rw [eM_47]; exact hP
      have hD : va_D A ([] ++ va_pl L M_47) := by rw [eM_47]; exact hD
      have hW : WOK cy K L M_47 := by rw [eM_47]; exact hW.up_2 i_22 ⟨v1_0, v1_1, v1_2, v1_3, v1_4, v1_5, v1_6, v1_7, v1_8, (v1_9 + 1), v1_10, v1_11, v1_12, v1_13, v1_14, v1_15, v1_16, v1_17, v1_18, v1_19, rfl, i_24, h1_4, h1_5, i_25, i_26, i_27, (by omega), i_28, h1_11, i_29, i_30, i_31, i_32, i_33, i_34⟩
      have hF : fr K0 L0 [2, 61, 62] M0 M_47 := by rw [eM_47]; exact hF.upX hX0 i_22 (by decide)
      have hT2 : fT 2 K0 L0 [9, 15] M0 M_47 := by rw [eM_47]; exact hT2.up (i := 9) hM_40 rfl (by decide)
      have hM_48 : M_47 oa = .inr (2, [.int v1_0, .int v1_1, .int v1_2, .ref v1_3, .int (nI v1_4), .int (nI v1_5), .ref v1_6, .ref v1_7, .ref v1_8, .int (nI (v1_9 + 1)), .ref v1_10, .int (nI v1_11), .ref v1_12, .ref v1_13, .long v1_14, .int v1_15, .ref v1_16, .ref v1_17, .ref v1_18, .ref v1_19]) := by rw [eM_47]; exact va_up_self _ _ _
      have hM_49 : M_47 v1_8 = .inl (cy 22, 24, .inr (.inr (.inr (.inr (f_42))))) := by rw [eM_47, va_up_ne _ _ (i_27.neT i_22 (by decide))]; exact hM_39
      have hM_50 : M_47 q_12 = .inr (9, [.int (nI v37_0), .ref v37_1, .int v37_2, .int v37_3, .int v37_4, .int v37_5, .int v37_6, .int v37_7, va_rf v37_8, .long v37_9, .long v37_10, .long v37_11, .long v37_12, .long v37_13, .long v37_14, .long v37_15]) := by rw [eM_47, va_up_ne _ _ (i_19.neT i_22 (by decide))]; exact hM_41
      have hb_51 : (v1_9 + 1) ≤ 24 := by omega
      refine lv_aload_n hx hb dX2_addTenure_57 rfl (lv_at hl 1 rfl) ?_
      refine pg_get (D := D) (ci := 2) (v := .ref v1_7) (C := RX2) (T := TX2) (N := 20) hx hb hg inG2 hown hK hP i_22.1 hM_48 rfl 7 (by decide) (hg _ wd_48) (fun _ h9 => h9) rfl dX2_addTenure_58 ?_
      refine lv_iload_n hx hb dX2_addTenure_61 rfl (lv_at hl 3 rfl) ?_
      refine lv_aload hx hb dX2_addTenure_62 (lv_at hl 0 rfl) ?_
      obtain ⟨f52, hM52, hf52⟩ := hW.open_61 i_26
      refine pg_astq (r := (RX9, TX9, 16)) hx hb hK hP hD hS i_26.1 8 9 hM52 rfl i_19.1 hM_50 rfl (inb k2 6 (by omega) c_9 c_10) dX2_addTenure_64 (fun H_53 locs hP hD hS => ?_)
      obtain ⟨M_54, eM_54⟩ : ∃ M1 : Hp, M1 = va_up M_47 v1_7 (.inl (cy 22, 6, .inr (.inr (.inr (.inr (va_up f52 (k2 : Int32).toNatClampNeg (some q_12))))))) := ⟨_, rfl⟩
      have hP : va_P D vwCl ([] ++ va_pl L M_54) H_53 := by rw [eM_54]; exact hP
      have hD : va_D A ([] ++ va_pl L M_54) := by rw [eM_54]; exact hD
      have hW : WOK cy K L M_54 := by rw [eM_54]; exact hW.up_61 i_26 ⟨_, rfl, (upN hf52 i_19)⟩
      have hF : fr K0 L0 [2, 61, 62] M0 M_54 := by rw [eM_54]; exact hF.upX hX0 i_26 (by decide)
      have hT2 : fT 2 K0 L0 [9, 15] M0 M_54 := by rw [eM_54]; exact hT2.neX hX0 i_26 (by decide)
      have hM_55 : M_54 v1_7 = .inl (cy 22, 6, .inr (.inr (.inr (.inr (va_up f52 (k2 : Int32).toNatClampNeg (some q_12)))))) := by rw [eM_54]; exact va_up_self _ _ _
      have hM_56 : M_54 oa = .inr (2, [.int v1_0, .int v1_1, .int v1_2, .ref v1_3, .int (nI v1_4), .int (nI v1_5), .ref v1_6, .ref v1_7, .ref v1_8, .int (nI (v1_9 + 1)), .ref v1_10, .int (nI v1_11), .ref v1_12, .ref v1_13, .long v1_14, .int v1_15, .ref v1_16, .ref v1_17, .ref v1_18, .ref v1_19]) := by rw [eM_54, va_up_ne _ _ (i_22.neT i_26 (by decide))]; exact hM_48
      have hM_57 : M_54 v1_8 = .inl (cy 22, 24, .inr (.inr (.inr (.inr (f_42))))) := by rw [eM_54, va_up_ne _ _ (i_27.neT i_26 (by decide))]; exact hM_49
      have hM_58 : M_54 q_12 = .inr (9, [.int (nI v37_0), .ref v37_1, .int v37_2, .int v37_3, .int v37_4, .int v37_5, .int v37_6, .int v37_7, va_rf v37_8, .long v37_9, .long v37_10, .long v37_11, .long v37_12, .long v37_13, .long v37_14, .long v37_15]) := by rw [eM_54, va_up_ne _ _ (i_19.neT i_26 (by decide))]; exact hM_50
      have hf_60 : ∀ j, j < 6 → iskN K L ((va_up f52 (k2 : Int32).toNatClampNeg (some q_12)) j) 9 0 := (upN hf52 i_19)
      obtain ⟨f_59, ef_59⟩ : ∃ f : Nat → Option Nat, f = va_up f52 (k2 : Int32).toNatClampNeg (some q_12) := ⟨_, rfl⟩
      rw [← ef_59] at hM_55 hf_60
      have hk_61 : f_59 (k2 : Int32).toNatClampNeg = some q_12 := by rw [ef_59]; exact va_up_self _ _ _
      clear ef_59
      refine lv_aload_n hx hb dX2_addTenure_65 rfl (lv_at hl 2 rfl) ?_
      obtain ⟨v62_0, v62_1, v62_2, v62_3, hM62, h62_3⟩ := hW.open_4 i_23
      refine pg_get (D := D) (ci := 4) (v := va_rf v62_3) (C := RX4) (T := TX4) (N := 4) hx hb hg inG4 hown hK hP i_23.1 hM62 rfl 3 (by decide) (hg _ wd_87) (fun _ h9 => h9) rfl dX2_addTenure_66 ?_
      rcases v62_3 with _ | b_63
      · have hz := rfl (a := 0)
        refine lv_ifnullN (tgt := 90) hx hb dX2_addTenure_69 (by decide) ?_
        refine lv_aload hx hb dX2_addTenure_90 (lv_at hl 0 rfl) ?_
        refine pg_get (D := D) (ci := 9) (v := .int (nI v37_0)) (C := RX9) (T := TX9) (N := 16) hx hb hg inG9 hown hK hP i_19.1 hM_58 rfl 0 (by decide) (hg _ wd_547) (fun _ h9 => h9) rfl dX2_addTenure_92 ?_
        rw [hQ]
        exact W.iret (v := (nI v37_0)) hx hb hr (fun t ht hW9 => ⟨⟨(nI v37_0), (K, L, M_54), rfl, ⟨hX0, hW, hF, hT2, trivial⟩, ⟨by rw [ht]; exact hP, hD⟩⟩, hS.F ht⟩) hS.2.2 dX2_addTenure_95
      · have hb_64 := h62_3 b_63 rfl
        refine lv_ifnull hx hb dX2_addTenure_69 ?_
        refine lv_aload_n hx hb dX2_addTenure_72 rfl (lv_at hl 1 rfl) ?_
        refine lv_dup hx hb dX2_addTenure_73 rfl ?_
        refine pg_get (D := D) (ci := 2) (v := .int v1_15) (C := RX2) (T := TX2) (N := 20) hx hb hg inG2 hown hK hP i_22.1 hM_56 rfl 15 (by decide) (hg _ wd_61) (fun _ h9 => h9) rfl dX2_addTenure_74 ?_
        refine lv_iconst (v := 1) hx hb dX2_addTenure_77 (by decide) ?_
        refine lv_aload_n hx hb dX2_addTenure_78 rfl (lv_at hl 2 rfl) ?_
        refine pg_get (D := D) (ci := 4) (v := va_rf (some b_63)) (C := RX4) (T := TX4) (N := 4) hx hb hg inG4 hown hK hP i_23.1 hM62 rfl 3 (by decide) (hg _ wd_87) (fun _ h9 => h9) rfl dX2_addTenure_79 ?_
        obtain ⟨v65_0, v65_1, v65_2, v65_3, v65_4, v65_5, v65_6, v65_7, v65_8, v65_9, v65_10, v65_11, v65_12, v65_13, v65_14, v65_15, v65_16, v65_17, v65_18, v65_19, hM65, h65_3, h65_4, h65_5, h65_6, h65_7, h65_8, h65_9, h65_10, h65_11, h65_12, h65_13, h65_16, h65_17, h65_18, h65_19⟩ := hW.open_2 hb_64
        refine pg_get (D := D) (ci := 2) (v := .int v65_0) (C := RX2) (T := TX2) (N := 20) hx hb hg inG2 hown hK hP hb_64.1 hM65 rfl 0 (by decide) (hg _ wd_548) (fun _ h9 => h9) rfl dX2_addTenure_82 ?_
        refine lv_ishl hx hb dX2_addTenure_85 ?_
        refine lv_topi (fun f_66 ef_66 => ?_)
        refine lv_ior hx hb dX2_addTenure_86 ?_
        refine lv_topi (fun f_67 ef_67 => ?_)
        refine pg_put (D := D) (ci := 2) (v := .int f_67) (ty := .int) (C := RX2) (T := TX2) (N := 20) hx hb hg inG2 tyX2 tyX2_ok nmX2 hown hK hP hD hS i_22.1 hM_56 rfl 15 (by decide) (hg _ wd_61) (fun _ h9 => h9) rfl (by decide +kernel) rfl rfl (Nat.le_of_ble_eq_true rfl) dX2_addTenure_87 (fun H_68 locs hP hD hS => ?_)
        obtain ⟨M_69, eM_69⟩ : ∃ M1 : Hp, M1 = va_up M_54 oa (.inr (2, [.int v1_0, .int v1_1, .int v1_2, .ref v1_3, .int (nI v1_4), .int (nI v1_5), .ref v1_6, .ref v1_7, .ref v1_8, .int (nI (v1_9 + 1)), .ref v1_10, .int (nI v1_11), .ref v1_12, .ref v1_13, .long v1_14, .int f_67, .ref v1_16, .ref v1_17, .ref v1_18, .ref v1_19])) := ⟨_, rfl⟩
        have hP : va_P D vwCl ([] ++ va_pl L M_69) H_68 := by rw [eM_69]; exact hP
        have hD : va_D A ([] ++ va_pl L M_69) := by rw [eM_69]; exact hD
        have hW : WOK cy K L M_69 := by rw [eM_69]; exact hW.up_2 i_22 ⟨v1_0, v1_1, v1_2, v1_3, v1_4, v1_5, v1_6, v1_7, v1_8, (v1_9 + 1), v1_10, v1_11, v1_12, v1_13, v1_14, f_67, v1_16, v1_17, v1_18, v1_19, rfl, i_24, h1_4, h1_5, i_25, i_26, i_27, hb_51, i_28, h1_11, i_29, i_30, i_31, i_32, i_33, i_34⟩
        have hF : fr K0 L0 [2, 61, 62] M0 M_69 := by rw [eM_69]; exact hF.upX hX0 i_22 (by decide)
        have hT2 : fT 2 K0 L0 [9, 15] M0 M_69 := by rw [eM_69]; exact hT2.up (i := 15) hM_56 rfl (by decide)
        have hM_70 : M_69 oa = .inr (2, [.int v1_0, .int v1_1, .int v1_2, .ref v1_3, .int (nI v1_4), .int (nI v1_5), .ref v1_6, .ref v1_7, .ref v1_8, .int (nI (v1_9 + 1)), .ref v1_10, .int (nI v1_11), .ref v1_12, .ref v1_13, .long v1_14, .int f_67, .ref v1_16, .ref v1_17, .ref v1_18, .ref v1_19]) := by rw [eM_69]; exact va_up_self _ _ _
        have hM_71 : M_69 v1_7 = .inl (cy 22, 6, .inr (.inr (.inr (.inr (f_59))))) := by rw [eM_69, va_up_ne _ _ (i_26.neT i_22 (by decide))]; exact hM_55
        have hM_72 : M_69 v1_8 = .inl (cy 22, 24, .inr (.inr (.inr (.inr (f_42))))) := by rw [eM_69, va_up_ne _ _ (i_27.neT i_22 (by decide))]; exact hM_57
        have hM_73 : M_69 q_12 = .inr (9, [.int (nI v37_0), .ref v37_1, .int v37_2, .int v37_3, .int v37_4, .int v37_5, .int v37_6, .int v37_7, va_rf v37_8, .long v37_9, .long v37_10, .long v37_11, .long v37_12, .long v37_13, .long v37_14, .long v37_15]) := by rw [eM_69, va_up_ne _ _ (i_19.neT i_22 (by decide))]; exact hM_58
        have hM_74 : M_69 k1 = .inr (4, [.int v62_0, .int v62_1, .int v62_2, va_rf (some b_63)]) := by rw [eM_69, va_up_ne _ _ (i_23.neT i_22 (by decide))]; exact hM62
        obtain ⟨x_75, hM_76⟩ : ∃ x : Int32, M_69 b_63 = .inr (2, [.int v65_0, .int v65_1, .int v65_2, .ref v65_3, .int (nI v65_4), .int (nI v65_5), .ref v65_6, .ref v65_7, .ref v65_8, .int (nI v65_9), .ref v65_10, .int (nI v65_11), .ref v65_12, .ref v65_13, .long v65_14, .int x, .ref v65_16, .ref v65_17, .ref v65_18, .ref v65_19]) := by
          rw [eM_69]
          rcases up_same (v := .int f_67) (j := 15) hM_56 hM65 with h | h
          · exact ⟨f_67, h⟩
          · exact ⟨v65_15, h⟩
        refine lv_aload hx hb dX2_addTenure_90 (lv_at hl 0 rfl) ?_
        refine pg_get (D := D) (ci := 9) (v := .int (nI v37_0)) (C := RX9) (T := TX9) (N := 16) hx hb hg inG9 hown hK hP i_19.1 hM_73 rfl 0 (by decide) (hg _ wd_547) (fun _ h9 => h9) rfl dX2_addTenure_92 ?_
        rw [hQ]
        exact W.iret (v := (nI v37_0)) hx hb hr (fun t ht hW9 => ⟨⟨(nI v37_0), (K, L, M_69), rfl, ⟨hX0, hW, hF, hT2, trivial⟩, ⟨by rw [ht]; exact hP, hD⟩⟩, hS.F ht⟩) hS.2.2 dX2_addTenure_95
    · have hz := rfl (a := 0)
      refine lv_if_ne (tgt := 18) hx hb dX2_addTenure_13 (by decide) (fun c_77 => absurd c_77 (by decide)) (fun _ => ?_)
      refine lv_iconst (v := (-1)) hx hb dX2_addTenure_16 (by decide) ?_
      refine W.widen (k := 1) (n := 16) (Nat.le_of_ble_eq_true rfl) (Nat.le_of_ble_eq_true rfl) ?_
      rw [hQ]
      exact W.iret (v := (-1)) hx hb hr (fun t ht hW9 => ⟨⟨(-1), (K, L, M), rfl, ⟨hX0, hW, hF, hT2, trivial⟩, ⟨by rw [ht]; exact hP, hD⟩⟩, hS.F ht⟩) hS.2.2 dX2_addTenure_17
set_option maxHeartbeats 4000000 in
set_option maxRecDepth 100000 in
theorem s_addTenure_1 (l : Launch) (D : va_G) (cy : Nat → ClassId) (K0 : Kp) (L0 : List Nat) (M0 : Hp) (sz : Nat) (oa : Nat) (k1 : Nat) (k2 : Int32) (k3 : Int32) (hW : WOK cy K0 L0 M0) (ia : isk K0 L0 oa 2 0) (ik1 : isk K0 L0 k1 4 0) : Met l yX2_addTenure (wsM yX2_addTenure cX2_addTenure 6 (some .int)) ({ frames := 2, cells := 1, slots := 16, locals := 37 }) (va_Pc [.ref oa, .ref k1, .int k2, .int k3, .int 1] (PG D cy [] L0 M0 sz)) (va_Qi (fun (r : Int32) (u : Kp × List Nat × Hp) => ext K0 L0 u.1 u.2.1 ∧ WOK cy u.1 u.2.1 u.2.2 ∧ fr K0 L0 [2, 61, 62] M0 u.2.2 ∧ fT 2 K0 L0 [9, 15] M0 u.2.2 ∧ (True)) (fun u t => PQ D [] u.2.1 u.2.2 (va_A ([] ++ va_pl L0 M0) sz) t) (va_A ([] ++ va_pl L0 M0) sz)) 1 16 (va_A ([] ++ va_pl L0 M0) sz) := by
  refine Met.ofW (cc := cX2_addTenure) (maxL := 6) (ret := (some .int)) (by decide) rfl ?_
  intro p e s m args below meth c s₁ B hml hv
  obtain ⟨rfl, hsz, hP, hK, hD0, hN⟩ := hv
  have hx := B.exec
  have hb := B.bytes
  have hr := B.returns
  have hts := atoms_spec (ws := (wsM yX2_addTenure cX2_addTenure 6 (some .int))) B.pre
  have hg : ∀ w ∈ lw_good, w.before _ s = true := fun w h => hts w (List.mem_cons_of_mem _ h)
  have hown : s.vm.findClass RX2 = some m.cls := findClass_of_methodNamed B.named
  have hlocks := B.notSynchronized
  subst hsz
  have hD := hD0.self (sz := s.heap.size)
  generalize hAe : va_A ([] ++ va_pl L0 M0) s.heap.size = A at hD ⊢
  have hA : ∀ q : Nat, s.heap.size ≤ q → A q := fun q h => by rw [← hAe]; exact Or.inr h
  have hS : va_S A s.heap s.heap [] := va_S.rf
  have hl := lv_entry ([.ref oa, .ref k1, .int k2, .int k3, .int 1]) (n := 6) (Nat.le_of_ble_eq_true rfl)
  rw [lg_entry_eq]
  generalize (lg_sl ([.ref oa, .ref k1, .int k2, .int k3, .int 1]) ++ List.replicate (6 - (lg_sl ([.ref oa, .ref k1, .int k2, .int k3, .int 1])).length) Slot.unset).toArray = ls at hl ⊢
  refine W.nameQ (fun Q hQ => ?_)
  refine W.nameR (fun R hR => ?_)
  have hRf : 2 ≤ R.frames := by rw [hR]; exact Nat.le_of_ble_eq_true rfl
  have hRl : 37 ≤ R.locals := by rw [hR]; exact Nat.le_of_ble_eq_true rfl
  have hRc : 1 ≤ R.cells := by rw [hR]; exact Nat.le_of_ble_eq_true rfl
  have hRs : 16 ≤ R.slots := by rw [hR]; exact Nat.le_of_ble_eq_true rfl
  obtain ⟨K, L, M, hX0, hF, hT2, hW, hP, hD, ia, ik1⟩ : ∃ (K : Kp) (L : List Nat) (M : Hp), ext K0 L0 K L ∧ fr K0 L0 [2, 61, 62] M0 M ∧ fT 2 K0 L0 [9, 15] M0 M ∧ WOK cy K L M ∧ va_P D vwCl ([] ++ va_pl L M) s.heap ∧ va_D A ([] ++ va_pl L M) ∧ isk K L oa 2 0 ∧ isk K L k1 4 0 := ⟨K0, L0, M0, ext.rf, fr.rf, fT.rf, hW, hP, hD, ia, ik1⟩
  have hl : lv_has ls 6 [(0, .ref oa), (1, .ref k1), (2, .int k2), (3, .int k3), (4, .int 1)] := hl
  refine lv_aload_n hx hb dX2_addTenure_0 rfl (lv_at hl 0 rfl) ?_
  obtain ⟨v1_0, v1_1, v1_2, v1_3, v1_4, v1_5, v1_6, v1_7, v1_8, v1_9, v1_10, v1_11, v1_12, v1_13, v1_14, v1_15, v1_16, v1_17, v1_18, v1_19, hM1, h1_3, h1_4, h1_5, h1_6, h1_7, h1_8, h1_9, h1_10, h1_11, h1_12, h1_13, h1_16, h1_17, h1_18, h1_19⟩ := hW.open_2 ia
  refine pg_get (D := D) (ci := 2) (v := .int (nI v1_9)) (C := RX2) (T := TX2) (N := 20) hx hb hg inG2 hown hK hP ia.1 hM1 rfl 9 (by decide) (hg _ wd_44) (fun _ h9 => h9) rfl dX2_addTenure_1 ?_
  refine lv_bipush (v := 24) hx hb dX2_addTenure_4 (by decide) ?_
  refine lv_icmp_ge (tgt := 16) hx hb dX2_addTenure_6 (by decide) (fun c_2 => ?_) (fun c_2 => ?_)
  · have hz := rfl (a := 0)
    have n_3 : 24 ≤ v1_9 := (iLE (a := 24) (b := v1_9) (by omega) (by omega)).mp c_2
    refine lv_iconst (v := (-1)) hx hb dX2_addTenure_16 (by decide) ?_
    refine W.widen (k := 1) (n := 16) (Nat.le_of_ble_eq_true rfl) (Nat.le_of_ble_eq_true rfl) ?_
    rw [hQ]
    exact W.iret (v := (-1)) hx hb hr (fun t ht hW9 => ⟨⟨(-1), (K, L, M), rfl, ⟨hX0, hW, hF, hT2, trivial⟩, ⟨by rw [ht]; exact hP, hD⟩⟩, hS.F ht⟩) hS.2.2 dX2_addTenure_17
  · have hz := rfl (a := 0)
    have n_4 : ¬ (24 ≤ v1_9) := fun q => c_2 ((iLE (a := 24) (b := v1_9) (by omega) (by omega)).mpr q)
    refine lv_iload_n hx hb dX2_addTenure_9 rfl (lv_at hl 2 rfl) ?_
    have hPc : va_P D vwCl ([] ++ va_pl L M) s.heap := hP
    have hDc : va_D A ([] ++ va_pl L M) := hD
    have hFc : ∀ q, va_A ([] ++ va_pl L M) s.heap.size q → A q := pg_free hDc hS hA
    refine va_calli (va_runSN (As := [.int k2]) (rest := []) ⟨hx, hb, hml, hown, hg⟩ (s_X11_isSeat l D cy K L M s.heap.size k2  hW ) ⟨va_cnB 1 hg (gB wd_46) rfl rfl rfl (hN _ (List.mem_of_getElem? (i := 3) rfl) : va_Nw (Cond.methodLinkNest RX2 88 yX11_isSeat RX11) s) (hg _ wd_3) (by decide +kernel) ⟨(Nat.le_trans (Nat.le_of_ble_eq_true rfl) hRf), (Nat.le_trans (Nat.le_of_ble_eq_true rfl) hRl)⟩, hg _ wd_47, trivial⟩ ⟨PG.blind, fun U hU hW => ⟨rfl, PG.at hPc hK hDc hN hU hW⟩⟩ rfl rfl hl.1 rfl (lv_room (Nat.le_of_ble_eq_true rfl)) dX2_addTenure_10 ⟨(Nat.le_trans (Nat.le_of_ble_eq_true rfl) hRc), (Nat.le_trans (Nat.le_of_ble_eq_true rfl) hRs)⟩) hS (fun q _ h => hFc q h) hFc (fun r_6 M_7 t H_5 locs ht hvm hw hB hz1 hk1 hS => ?_)
    have hp_8 := hw
    obtain ⟨hP1, hD1⟩ := hB
    rw [ht] at hP1
    have hP : va_P D vwCl ([] ++ va_pl L M) H_5 := hP1
    have hD : va_D A ([] ++ va_pl L M) := hD1.mono hFc
    rcases hp_8 with ⟨rfl, c_9, c_10⟩ | rfl
    · have hz := rfl (a := 0)
      refine lv_if_ne (tgt := 18) hx hb dX2_addTenure_13 (by decide) (fun _ => ?_) (fun c_11 => absurd c_11 (by decide))
      refine va_new (ci := 9) (fs := [.int 0, .null, .int 0, .int 0, .int 0, .int 0, .int 0, .int 0, .null, .long 0, .long 0, .long 0, .long 0, .long 0, .long 0, .long 0]) (C := RX9) (T := TX9) (N := 16) hx hb hg inG9 tyX9 tyX9_ok hown (hg _ wd_542) (hg _ wd_543) (hg _ wd_52) hK hP hD hS hA rfl dfX9 (Nat.le_trans (Nat.le_of_ble_eq_true rfl) hRc) (Nat.le_trans (Nat.le_of_ble_eq_true rfl) hRs) dX2_addTenure_18 (fun q_12 H_13 hP hD hS => ?_)
      have hP : va_P D vwCl ([(q_12, .inr (9, [.int 0, .null, .int 0, .int 0, .int 0, .int 0, .int 0, .int 0, .null, .long 0, .long 0, .long 0, .long 0, .long 0, .long 0, .long 0]))] ++ va_pl L M) H_13 := hP.swap
      have hD : va_D A ([(q_12, .inr (9, [.int 0, .null, .int 0, .int 0, .int 0, .int 0, .int 0, .int 0, .null, .long 0, .long 0, .long 0, .long 0, .long 0, .long 0, .long 0]))] ++ va_pl L M) := hD.swap
      refine W.widen (k := 1) (n := 16) (Nat.le_of_ble_eq_true rfl) (Nat.le_of_ble_eq_true rfl) ?_
      refine lv_dup hx hb dX2_addTenure_21 rfl ?_
      refine lv_aload_n hx hb dX2_addTenure_22 rfl (lv_at hl 0 rfl) ?_
      refine pg_get (D := D) (ci := 2) (v := .int (nI v1_9)) (C := RX2) (T := TX2) (N := 20) hx hb hg inG2 hown hK hP ia.1 hM1 rfl 9 (by decide) (hg _ wd_44) (fun _ h9 => h9) rfl dX2_addTenure_23 ?_
      refine lv_aload_n hx hb dX2_addTenure_26 rfl (lv_at hl 1 rfl) ?_
      refine lv_iload_n hx hb dX2_addTenure_27 rfl (lv_at hl 2 rfl) ?_
      refine lv_iload_n hx hb dX2_addTenure_28 rfl (lv_at hl 3 rfl) ?_
      refine lv_iload hx hb dX2_addTenure_29 (lv_at hl 4 rfl) ?_
      have hPc := hP.sub (ws' := [(q_12, .inr (9, [.int 0, .null, .int 0, .int 0, .int 0, .int 0, .int 0, .int 0, .null, .long 0, .long 0, .long 0, .long 0, .long 0, .long 0, .long 0]))]) [0] rfl
      have hDc := hD.sub (ws' := [(q_12, .inr (9, [.int 0, .null, .int 0, .int 0, .int 0, .int 0, .int 0, .int 0, .null, .long 0, .long 0, .long 0, .long 0, .long 0, .long 0, .long 0]))]) [0] (by decide) rfl
      have hKc := hK.sub (tys' := []) [] rfl
      have hFc := va_free (wc := [(q_12, .inr (9, [.int 0, .null, .int 0, .int 0, .int 0, .int 0, .int 0, .int 0, .null, .long 0, .long 0, .long 0, .long 0, .long 0, .long 0, .long 0]))]) hD hS hA [0] rfl
      refine va_callv (va_runI (As := [.int (nI v1_9), .ref k1, .int k2, .int k3, .int 1]) (rest := [.ref q_12]) ⟨hx, hb, hml, hown, hg⟩ (k_Tenure_1 l D H_13.size q_12 (nI v1_9) k1 k2 k3) (cwI 5 hg (gB wd_544) rfl rfl rfl (hg _ wd_52) (hg _ wd_545) (hg _ wd_546) rfl (by decide +kernel) ⟨(Nat.le_trans (Nat.le_of_ble_eq_true rfl) hRf), (Nat.le_trans (Nat.le_of_ble_eq_true rfl) hRl)⟩) ⟨Pr.blind, fun U hU hW => ⟨rfl, Pr.at hPc hKc hDc hN hU hW⟩⟩ rfl rfl hl.1 rfl (lv_room (Nat.le_of_ble_eq_true rfl)) dX2_addTenure_31 ⟨(Nat.le_trans (Nat.le_of_ble_eq_true rfl) hRc), (Nat.le_trans (Nat.le_of_ble_eq_true rfl) hRs)⟩) hS (fun q _ h => hFc q h) hFc (fun M_16 t H_14 locs ht hvm hw hB hz1 hk1 hS => ?_)
      have hp_17 := hw
      obtain ⟨hP1, hK1, hD1⟩ := hB
      rw [ht] at hP1
      obtain ⟨hP, hD⟩ := va_joinQ (X := [(q_12, .inr (9, [.int 0, .null, .int 0, .int 0, .int 0, .int 0, .int 0, .int 0, .null, .long 0, .long 0, .long 0, .long 0, .long 0, .long 0, .long 0]))]) (cx := [(q_12, .inr (9, [.int 0, .null, .int 0, .int 0, .int 0, .int 0, .int 0, .int 0, .null, .long 0, .long 0, .long 0, .long 0, .long 0, .long 0, .long 0]))]) (wr := []) (w1 := [(q_12, .inr (9, [.int (nI v1_9), .ref k1, .int k2, .int k3, .int 1, .int (-1), .int 0, .int 0, .null, .long 0, .long 0, .long 0, .long 0, .long 0, .long 0, .long 0]))]) (pl := va_pl L M) hP hD [0] [] rfl rfl (by decide) (by decide) hk1 hFc hP1 hD1
      have hP : va_P D vwCl ([(q_12, .inr (9, [.int (nI v1_9), .ref k1, .int k2, .int k3, .int 1, .int (-1), .int 0, .int 0, .null, .long 0, .long 0, .long 0, .long 0, .long 0, .long 0, .long 0]))] ++ va_pl L M) H_14 := hP
      have hD : va_D A ([(q_12, .inr (9, [.int (nI v1_9), .ref k1, .int k2, .int k3, .int 1, .int (-1), .int 0, .int 0, .null, .long 0, .long 0, .long 0, .long 0, .long 0, .long 0, .long 0]))] ++ va_pl L M) := hD
      have hP : va_P D vwCl (([] ++ [(q_12, .inr (9, [.int (nI v1_9), .ref k1, .int k2, .int k3, .int 1, .int (-1), .int 0, .int 0, .null, .long 0, .long 0, .long 0, .long 0, .long 0, .long 0, .long 0]))]) ++ va_pl L M) H_14 := hP.part (cx := [] ++ [(q_12, .inr (9, [.int (nI v1_9), .ref k1, .int k2, .int k3, .int 1, .int (-1), .int 0, .int 0, .null, .long 0, .long 0, .long 0, .long 0, .long 0, .long 0, .long 0]))]) [0] rfl
      have hD : va_D A (([] ++ [(q_12, .inr (9, [.int (nI v1_9), .ref k1, .int k2, .int k3, .int 1, .int (-1), .int 0, .int 0, .null, .long 0, .long 0, .long 0, .long 0, .long 0, .long 0, .long 0]))]) ++ va_pl L M) := hD.part (cx := [] ++ [(q_12, .inr (9, [.int (nI v1_9), .ref k1, .int k2, .int k3, .int 1, .int (-1), .int 0, .int 0, .null, .long 0, .long 0, .long 0, .long 0, .long 0, .long 0, .long 0]))]) [0] (by decide) rfl
      obtain ⟨K9, L9, M_18, hx9, i_19, hW, hP, hD, hM_20, hfr9, hq9⟩ := adoptE 9 0 hP hD hW (fun K' L' x i => (⟨v1_9, k1, k2, k3, 1, (-1), 0, 0, none, 0, 0, 0, 0, 0, 0, 0, rfl, (by omega), ik1.ext x, (Or.inr rfl), iskN.none⟩ : gd_9 K' L' _))
      have hM_21 : M_18 oa = .inr (2, [.int v1_0, .int v1_1, .int v1_2, .ref v1_3, .int (nI v1_4), .int (nI v1_5), .ref v1_6, .ref v1_7, .ref v1_8, .int (nI v1_9), .ref v1_10, .int (nI v1_11), .ref v1_12, .ref v1_13, .long v1_14, .int v1_15, .ref v1_16, .ref v1_17, .ref v1_18, .ref v1_19]) := (hfr9 _ ia.1).trans hM1
      have hF : fr K0 L0 [2, 61, 62] M0 M_18 := hF.adX hX0 hfr9
      have hT2 : fT 2 K0 L0 [9, 15] M0 M_18 := hT2.adX hX0 hfr9
      have hX0 := hX0.tr hx9
      have i_22 := ia.ext hx9
      have i_23 := ik1.ext hx9
      have i_24 := h1_3.ext hx9
      have i_25 := h1_6.ext hx9
      have i_26 := h1_7.ext hx9
      have i_27 := h1_8.ext hx9
      have i_28 := h1_10.ext hx9
      have i_29 := h1_12.ext hx9
      have i_30 := h1_13.ext hx9
      have i_31 := h1_16.ext hx9
      have i_32 := h1_17.ext hx9
      have i_33 := h1_18.ext hx9
      have i_34 := h1_19.ext hx9
      obtain ⟨K, L, hK9, hL9⟩ : ∃ (K : Kp) (L : List Nat), K = K9 ∧ L = L9 := ⟨_, _, rfl, rfl⟩
      subst hK9
      subst hL9
      have hP : va_P D vwCl ([] ++ va_pl L M_18) H_14 := hP
      have hD : va_D A ([] ++ va_pl L M_18) := hD
      refine lv_astore (lv' := [(5, .ref q_12), (0, .ref oa), (1, .ref k1), (2, .int k2), (3, .int k3), (4, .int 1)]) hx hb dX2_addTenure_34 hl (by decide) rfl (fun ls hl => ?_)
      refine lv_aload_n hx hb dX2_addTenure_36 rfl (lv_at hl 1 rfl) ?_
      refine pg_get (D := D) (ci := 2) (v := .ref v1_8) (C := RX2) (T := TX2) (N := 20) hx hb hg inG2 hown hK hP i_22.1 hM_21 rfl 8 (by decide) (hg _ wd_45) (fun _ h9 => h9) rfl dX2_addTenure_37 ?_
      refine lv_aload_n hx hb dX2_addTenure_40 rfl (lv_at hl 1 rfl) ?_
      refine pg_get (D := D) (ci := 2) (v := .int (nI v1_9)) (C := RX2) (T := TX2) (N := 20) hx hb hg inG2 hown hK hP i_22.1 hM_21 rfl 9 (by decide) (hg _ wd_44) (fun _ h9 => h9) rfl dX2_addTenure_41 ?_
      refine lv_aload hx hb dX2_addTenure_44 (lv_at hl 0 rfl) ?_
      obtain ⟨f35, hM35, hf35⟩ := hW.open_62 i_27
      obtain ⟨v37_0, v37_1, v37_2, v37_3, v37_4, v37_5, v37_6, v37_7, v37_8, v37_9, v37_10, v37_11, v37_12, v37_13, v37_14, v37_15, hM37, h37_0, h37_1, h37_4, h37_8⟩ := hW.open_9 i_19
      refine pg_astq (r := (RX9, TX9, 16)) hx hb hK hP hD hS i_27.1 8 9 hM35 rfl i_19.1 hM37 rfl (inbN v1_9 24 (by omega) (by omega)) dX2_addTenure_46 (fun H_36 locs hP hD hS => ?_)
      obtain ⟨M_38, eM_38⟩ : ∃ M1 : Hp, M1 = va_up M_18 v1_8 (.inl (cy 22, 24, .inr (.inr (.inr (.inr (va_up f35 ((nI v1_9) : Int32).toNatClampNeg (some q_12))))))) := ⟨_, rfl⟩
      have hP : va_P D vwCl ([] ++ va_pl L M_38) H_36 := by rw [eM_38]; exact hP
      have hD : va_D A ([] ++ va_pl L M_38) := by rw [eM_38]; exact hD
      have hW : WOK cy K L M_38 := by rw [eM_38]; exact hW.up_62 i_27 ⟨_, rfl, (upN hf35 i_19)⟩
      have hF : fr K0 L0 [2, 61, 62] M0 M_38 := by rw [eM_38]; exact hF.upX hX0 i_27 (by decide)
      have hT2 : fT 2 K0 L0 [9, 15] M0 M_38 := by rw [eM_38]; exact hT2.neX hX0 i_27 (by decide)
      have hM_39 : M_38 v1_8 = .inl (cy 22, 24, .inr (.inr (.inr (.inr (va_up f35 ((nI v1_9) : Int32).toNatClampNeg (some q_12)))))) := by rw [eM_38]; exact va_up_self _ _ _
      have hM_40 : M_38 oa = .inr (2, [.int v1_0, .int v1_1, .int v1_2, .ref v1_3, .int (nI v1_4), .int (nI v1_5), .ref v1_6, .ref v1_7, .ref v1_8, .int (nI v1_9), .ref v1_10, .int (nI v1_11), .ref v1_12, .ref v1_13, .long v1_14, .int v1_15, .ref v1_16, .ref v1_17, .ref v1_18, .ref v1_19]) := by rw [eM_38, va_up_ne _ _ (i_22.neT i_27 (by decide))]; exact hM_21
      have hM_41 : M_38 q_12 = .inr (9, [.int (nI v37_0), .ref v37_1, .int v37_2, .int v37_3, .int v37_4, .int v37_5, .int v37_6, .int v37_7, va_rf v37_8, .long v37_9, .long v37_10, .long v37_11, .long v37_12, .long v37_13, .long v37_14, .long v37_15]) := by rw [eM_38, va_up_ne _ _ (i_19.neT i_27 (by decide))]; exact hM37
      have hf_43 : ∀ j, j < 24 → iskN K L ((va_up f35 ((nI v1_9) : Int32).toNatClampNeg (some q_12)) j) 9 0 := (upN hf35 i_19)
      obtain ⟨f_42, ef_42⟩ : ∃ f : Nat → Option Nat, f = va_up f35 ((nI v1_9) : Int32).toNatClampNeg (some q_12) := ⟨_, rfl⟩
      rw [← ef_42] at hM_39 hf_43
      have hk_44 : f_42 ((nI v1_9) : Int32).toNatClampNeg = some q_12 := by rw [ef_42]; exact va_up_self _ _ _
      clear ef_42
      refine lv_aload_n hx hb dX2_addTenure_47 rfl (lv_at hl 1 rfl) ?_
      refine lv_dup hx hb dX2_addTenure_48 rfl ?_
      refine pg_get (D := D) (ci := 2) (v := .int (nI v1_9)) (C := RX2) (T := TX2) (N := 20) hx hb hg inG2 hown hK hP i_22.1 hM_40 rfl 9 (by decide) (hg _ wd_44) (fun _ h9 => h9) rfl dX2_addTenure_49 ?_
      refine lv_iconst (v := 1) hx hb dX2_addTenure_52 (by decide) ?_
      refine lv_iadd hx hb dX2_addTenure_53 ?_
      refine lv_topi (fun f_45 ef_45 => ?_)
      obtain rfl : f_45 = (nI (v1_9 + 1)) := ef_45.trans (nI_add v1_9 1)
      refine pg_put (D := D) (ci := 2) (v := .int (nI (v1_9 + 1))) (ty := .int) (C := RX2) (T := TX2) (N := 20) hx hb hg inG2 tyX2 tyX2_ok nmX2 hown hK hP hD hS i_22.1 hM_40 rfl 9 (by decide) (hg _ wd_44) (fun _ h9 => h9) rfl (by decide +kernel) rfl rfl (Nat.le_of_ble_eq_true rfl) dX2_addTenure_54 (fun H_46 locs hP hD hS => ?_)
      obtain ⟨M_47, eM_47⟩ : ∃ M1 : Hp, M1 = va_up M_38 oa (.inr (2, [.int v1_0, .int v1_1, .int v1_2, .ref v1_3, .int (nI v1_4), .int (nI v1_5), .ref v1_6, .ref v1_7, .ref v1_8, .int (nI (v1_9 + 1)), .ref v1_10, .int (nI v1_11), .ref v1_12, .ref v1_13, .long v1_14, .int v1_15, .ref v1_16, .ref v1_17, .ref v1_18, .ref v1_19])) := ⟨_, rfl⟩
      have hP : va_P D vwCl ([] ++ va_pl L M_47) H_46 := by rw [eM_47]; exact hP
      have hD : va_D A ([] ++ va_pl L M_47) := by rw [eM_47]; exact hD
      have hW : WOK cy K L M_47 := by rw [eM_47]; exact hW.up_2 i_22 ⟨v1_0, v1_1, v1_2, v1_3, v1_4, v1_5, v1_6, v1_7, v1_8, (v1_9 + 1), v1_10, v1_11, v1_12, v1_13, v1_14, v1_15, v1_16, v1_17, v1_18, v1_19, rfl, i_24, h1_4, h1_5, i_25, i_26, i_27, (by omega), i_28, h1_11, i_29, i_30, i_31, i_32, i_33, i_34⟩
      have hF : fr K0 L0 [2, 61, 62] M0 M_47 := by rw [eM_47]; exact hF.upX hX0 i_22 (by decide)
      have hT2 : fT 2 K0 L0 [9, 15] M0 M_47 := by rw [eM_47]; exact hT2.up (i := 9) hM_40 rfl (by decide)
      have hM_48 : M_47 oa = .inr (2, [.int v1_0, .int v1_1, .int v1_2, .ref v1_3, .int (nI v1_4), .int (nI v1_5), .ref v1_6, .ref v1_7, .ref v1_8, .int (nI (v1_9 + 1)), .ref v1_10, .int (nI v1_11), .ref v1_12, .ref v1_13, .long v1_14, .int v1_15, .ref v1_16, .ref v1_17, .ref v1_18, .ref v1_19]) := by rw [eM_47]; exact va_up_self _ _ _
      have hM_49 : M_47 v1_8 = .inl (cy 22, 24, .inr (.inr (.inr (.inr (f_42))))) := by rw [eM_47, va_up_ne _ _ (i_27.neT i_22 (by decide))]; exact hM_39
      have hM_50 : M_47 q_12 = .inr (9, [.int (nI v37_0), .ref v37_1, .int v37_2, .int v37_3, .int v37_4, .int v37_5, .int v37_6, .int v37_7, va_rf v37_8, .long v37_9, .long v37_10, .long v37_11, .long v37_12, .long v37_13, .long v37_14, .long v37_15]) := by rw [eM_47, va_up_ne _ _ (i_19.neT i_22 (by decide))]; exact hM_41
      have hb_51 : (v1_9 + 1) ≤ 24 := by omega
      refine lv_aload_n hx hb dX2_addTenure_57 rfl (lv_at hl 1 rfl) ?_
      refine pg_get (D := D) (ci := 2) (v := .ref v1_7) (C := RX2) (T := TX2) (N := 20) hx hb hg inG2 hown hK hP i_22.1 hM_48 rfl 7 (by decide) (hg _ wd_48) (fun _ h9 => h9) rfl dX2_addTenure_58 ?_
      refine lv_iload_n hx hb dX2_addTenure_61 rfl (lv_at hl 3 rfl) ?_
      refine lv_aload hx hb dX2_addTenure_62 (lv_at hl 0 rfl) ?_
      obtain ⟨f52, hM52, hf52⟩ := hW.open_61 i_26
      refine pg_astq (r := (RX9, TX9, 16)) hx hb hK hP hD hS i_26.1 8 9 hM52 rfl i_19.1 hM_50 rfl (inb k2 6 (by omega) c_9 c_10) dX2_addTenure_64 (fun H_53 locs hP hD hS => ?_)
      obtain ⟨M_54, eM_54⟩ : ∃ M1 : Hp, M1 = va_up M_47 v1_7 (.inl (cy 22, 6, .inr (.inr (.inr (.inr (va_up f52 (k2 : Int32).toNatClampNeg (some q_12))))))) := ⟨_, rfl⟩
      have hP : va_P D vwCl ([] ++ va_pl L M_54) H_53 := by rw [eM_54]; exact hP
      have hD : va_D A ([] ++ va_pl L M_54) := by rw [eM_54]; exact hD
      have hW : WOK cy K L M_54 := by rw [eM_54]; exact hW.up_61 i_26 ⟨_, rfl, (upN hf52 i_19)⟩
      have hF : fr K0 L0 [2, 61, 62] M0 M_54 := by rw [eM_54]; exact hF.upX hX0 i_26 (by decide)
      have hT2 : fT 2 K0 L0 [9, 15] M0 M_54 := by rw [eM_54]; exact hT2.neX hX0 i_26 (by decide)
      have hM_55 : M_54 v1_7 = .inl (cy 22, 6, .inr (.inr (.inr (.inr (va_up f52 (k2 : Int32).toNatClampNeg (some q_12)))))) := by rw [eM_54]; exact va_up_self _ _ _
      have hM_56 : M_54 oa = .inr (2, [.int v1_0, .int v1_1, .int v1_2, .ref v1_3, .int (nI v1_4), .int (nI v1_5), .ref v1_6, .ref v1_7, .ref v1_8, .int (nI (v1_9 + 1)), .ref v1_10, .int (nI v1_11), .ref v1_12, .ref v1_13, .long v1_14, .int v1_15, .ref v1_16, .ref v1_17, .ref v1_18, .ref v1_19]) := by rw [eM_54, va_up_ne _ _ (i_22.neT i_26 (by decide))]; exact hM_48
      have hM_57 : M_54 v1_8 = .inl (cy 22, 24, .inr (.inr (.inr (.inr (f_42))))) := by rw [eM_54, va_up_ne _ _ (i_27.neT i_26 (by decide))]; exact hM_49
      have hM_58 : M_54 q_12 = .inr (9, [.int (nI v37_0), .ref v37_1, .int v37_2, .int v37_3, .int v37_4, .int v37_5, .int v37_6, .int v37_7, va_rf v37_8, .long v37_9, .long v37_10, .long v37_11, .long v37_12, .long v37_13, .long v37_14, .long v37_15]) := by rw [eM_54, va_up_ne _ _ (i_19.neT i_26 (by decide))]; exact hM_50
      have hf_60 : ∀ j, j < 6 → iskN K L ((va_up f52 (k2 : Int32).toNatClampNeg (some q_12)) j) 9 0 := (upN hf52 i_19)
      obtain ⟨f_59, ef_59⟩ : ∃ f : Nat → Option Nat, f = va_up f52 (k2 : Int32).toNatClampNeg (some q_12) := ⟨_, rfl⟩
      rw [← ef_59] at hM_55 hf_60
      have hk_61 : f_59 (k2 : Int32).toNatClampNeg = some q_12 := by rw [ef_59]; exact va_up_self _ _ _
      clear ef_59
      refine lv_aload_n hx hb dX2_addTenure_65 rfl (lv_at hl 2 rfl) ?_
      obtain ⟨v62_0, v62_1, v62_2, v62_3, hM62, h62_3⟩ := hW.open_4 i_23
      refine pg_get (D := D) (ci := 4) (v := va_rf v62_3) (C := RX4) (T := TX4) (N := 4) hx hb hg inG4 hown hK hP i_23.1 hM62 rfl 3 (by decide) (hg _ wd_87) (fun _ h9 => h9) rfl dX2_addTenure_66 ?_
      rcases v62_3 with _ | b_63
      · have hz := rfl (a := 0)
        refine lv_ifnullN (tgt := 90) hx hb dX2_addTenure_69 (by decide) ?_
        refine lv_aload hx hb dX2_addTenure_90 (lv_at hl 0 rfl) ?_
        refine pg_get (D := D) (ci := 9) (v := .int (nI v37_0)) (C := RX9) (T := TX9) (N := 16) hx hb hg inG9 hown hK hP i_19.1 hM_58 rfl 0 (by decide) (hg _ wd_547) (fun _ h9 => h9) rfl dX2_addTenure_92 ?_
        rw [hQ]
        exact W.iret (v := (nI v37_0)) hx hb hr (fun t ht hW9 => ⟨⟨(nI v37_0), (K, L, M_54), rfl, ⟨hX0, hW, hF, hT2, trivial⟩, ⟨by rw [ht]; exact hP, hD⟩⟩, hS.F ht⟩) hS.2.2 dX2_addTenure_95
      · have hb_64 := h62_3 b_63 rfl
        refine lv_ifnull hx hb dX2_addTenure_69 ?_
        refine lv_aload_n hx hb dX2_addTenure_72 rfl (lv_at hl 1 rfl) ?_
        refine lv_dup hx hb dX2_addTenure_73 rfl ?_
        refine pg_get (D := D) (ci := 2) (v := .int v1_15) (C := RX2) (T := TX2) (N := 20) hx hb hg inG2 hown hK hP i_22.1 hM_56 rfl 15 (by decide) (hg _ wd_61) (fun _ h9 => h9) rfl dX2_addTenure_74 ?_
        refine lv_iconst (v := 1) hx hb dX2_addTenure_77 (by decide) ?_
        refine lv_aload_n hx hb dX2_addTenure_78 rfl (lv_at hl 2 rfl) ?_
        refine pg_get (D := D) (ci := 4) (v := va_rf (some b_63)) (C := RX4) (T := TX4) (N := 4) hx hb hg inG4 hown hK hP i_23.1 hM62 rfl 3 (by decide) (hg _ wd_87) (fun _ h9 => h9) rfl dX2_addTenure_79 ?_
        obtain ⟨v65_0, v65_1, v65_2, v65_3, v65_4, v65_5, v65_6, v65_7, v65_8, v65_9, v65_10, v65_11, v65_12, v65_13, v65_14, v65_15, v65_16, v65_17, v65_18, v65_19, hM65, h65_3, h65_4, h65_5, h65_6, h65_7, h65_8, h65_9, h65_10, h65_11, h65_12, h65_13, h65_16, h65_17, h65_18, h65_19⟩ := hW.open_2 hb_64
        refine pg_get (D := D) (ci := 2) (v := .int v65_0) (C := RX2) (T := TX2) (N := 20) hx hb hg inG2 hown hK hP hb_64.1 hM65 rfl 0 (by decide) (hg _ wd_548) (fun _ h9 => h9) rfl dX2_addTenure_82 ?_
        refine lv_ishl hx hb dX2_addTenure_85 ?_
        refine lv_topi (fun f_66 ef_66 => ?_)
        refine lv_ior hx hb dX2_addTenure_86 ?_
        refine lv_topi (fun f_67 ef_67 => ?_)
        refine pg_put (D := D) (ci := 2) (v := .int f_67) (ty := .int) (C := RX2) (T := TX2) (N := 20) hx hb hg inG2 tyX2 tyX2_ok nmX2 hown hK hP hD hS i_22.1 hM_56 rfl 15 (by decide) (hg _ wd_61) (fun _ h9 => h9) rfl (by decide +kernel) rfl rfl (Nat.le_of_ble_eq_true rfl) dX2_addTenure_87 (fun H_68 locs hP hD hS => ?_)
        obtain ⟨M_69, eM_69⟩ : ∃ M1 : Hp, M1 = va_up M_54 oa (.inr (2, [.int v1_0, .int v1_1, .int v1_2, .ref v1_3, .int (nI v1_4), .int (nI v1_5), .ref v1_6, .ref v1_7, .ref v1_8, .int (nI (v1_9 + 1)), .ref v1_10, .int (nI v1_11), .ref v1_12, .ref v1_13, .long v1_14, .int f_67, .ref v1_16, .ref v1_17, .ref v1_18, .ref v1_19])) := ⟨_, rfl⟩
        have hP : va_P D vwCl ([] ++ va_pl L M_69) H_68 := by rw [eM_69]; exact hP
        have hD : va_D A ([] ++ va_pl L M_69) := by rw [eM_69]; exact hD
        have hW : WOK cy K L M_69 := by rw [eM_69]; exact hW.up_2 i_22 ⟨v1_0, v1_1, v1_2, v1_3, v1_4, v1_5, v1_6, v1_7, v1_8, (v1_9 + 1), v1_10, v1_11, v1_12, v1_13, v1_14, f_67, v1_16, v1_17, v1_18, v1_19, rfl, i_24, h1_4, h1_5, i_25, i_26, i_27, hb_51, i_28, h1_11, i_29, i_30, i_31, i_32, i_33, i_34⟩
        have hF : fr K0 L0 [2, 61, 62] M0 M_69 := by rw [eM_69]; exact hF.upX hX0 i_22 (by decide)
        have hT2 : fT 2 K0 L0 [9, 15] M0 M_69 := by rw [eM_69]; exact hT2.up (i := 15) hM_56 rfl (by decide)
        have hM_70 : M_69 oa = .inr (2, [.int v1_0, .int v1_1, .int v1_2, .ref v1_3, .int (nI v1_4), .int (nI v1_5), .ref v1_6, .ref v1_7, .ref v1_8, .int (nI (v1_9 + 1)), .ref v1_10, .int (nI v1_11), .ref v1_12, .ref v1_13, .long v1_14, .int f_67, .ref v1_16, .ref v1_17, .ref v1_18, .ref v1_19]) := by rw [eM_69]; exact va_up_self _ _ _
        have hM_71 : M_69 v1_7 = .inl (cy 22, 6, .inr (.inr (.inr (.inr (f_59))))) := by rw [eM_69, va_up_ne _ _ (i_26.neT i_22 (by decide))]; exact hM_55
        have hM_72 : M_69 v1_8 = .inl (cy 22, 24, .inr (.inr (.inr (.inr (f_42))))) := by rw [eM_69, va_up_ne _ _ (i_27.neT i_22 (by decide))]; exact hM_57
        have hM_73 : M_69 q_12 = .inr (9, [.int (nI v37_0), .ref v37_1, .int v37_2, .int v37_3, .int v37_4, .int v37_5, .int v37_6, .int v37_7, va_rf v37_8, .long v37_9, .long v37_10, .long v37_11, .long v37_12, .long v37_13, .long v37_14, .long v37_15]) := by rw [eM_69, va_up_ne _ _ (i_19.neT i_22 (by decide))]; exact hM_58
        have hM_74 : M_69 k1 = .inr (4, [.int v62_0, .int v62_1, .int v62_2, va_rf (some b_63)]) := by rw [eM_69, va_up_ne _ _ (i_23.neT i_22 (by decide))]; exact hM62
        obtain ⟨x_75, hM_76⟩ : ∃ x : Int32, M_69 b_63 = .inr (2, [.int v65_0, .int v65_1, .int v65_2, .ref v65_3, .int (nI v65_4), .int (nI v65_5), .ref v65_6, .ref v65_7, .ref v65_8, .int (nI v65_9), .ref v65_10, .int (nI v65_11), .ref v65_12, .ref v65_13, .long v65_14, .int x, .ref v65_16, .ref v65_17, .ref v65_18, .ref v65_19]) := by
          rw [eM_69]
          rcases up_same (v := .int f_67) (j := 15) hM_56 hM65 with h | h
          · exact ⟨f_67, h⟩
          · exact ⟨v65_15, h⟩
        refine lv_aload hx hb dX2_addTenure_90 (lv_at hl 0 rfl) ?_
        refine pg_get (D := D) (ci := 9) (v := .int (nI v37_0)) (C := RX9) (T := TX9) (N := 16) hx hb hg inG9 hown hK hP i_19.1 hM_73 rfl 0 (by decide) (hg _ wd_547) (fun _ h9 => h9) rfl dX2_addTenure_92 ?_
        rw [hQ]
        exact W.iret (v := (nI v37_0)) hx hb hr (fun t ht hW9 => ⟨⟨(nI v37_0), (K, L, M_69), rfl, ⟨hX0, hW, hF, hT2, trivial⟩, ⟨by rw [ht]; exact hP, hD⟩⟩, hS.F ht⟩) hS.2.2 dX2_addTenure_95
    · have hz := rfl (a := 0)
      refine lv_if_ne (tgt := 18) hx hb dX2_addTenure_13 (by decide) (fun c_77 => absurd c_77 (by decide)) (fun _ => ?_)
      refine lv_iconst (v := (-1)) hx hb dX2_addTenure_16 (by decide) ?_
      refine W.widen (k := 1) (n := 16) (Nat.le_of_ble_eq_true rfl) (Nat.le_of_ble_eq_true rfl) ?_
      rw [hQ]
      exact W.iret (v := (-1)) hx hb hr (fun t ht hW9 => ⟨⟨(-1), (K, L, M), rfl, ⟨hX0, hW, hF, hT2, trivial⟩, ⟨by rw [ht]; exact hP, hD⟩⟩, hS.F ht⟩) hS.2.2 dX2_addTenure_17
set_option maxHeartbeats 4000000 in
set_option maxRecDepth 100000 in
theorem s_join_0 (l : Launch) (D : va_G) (cy : Nat → ClassId) (K0 : Kp) (L0 : List Nat) (M0 : Hp) (sz : Nat) (xa : Nat) (x0 : Nat) (x1 : Nat) (x2 : Nat) (x3 : Nat) (x4 : Nat) (x5 : Nat) (x6 : Nat) (x7 : Int32) (x8 : Nat) (x9 : Int32) (x10 : Int32) (k1 : Int32) (k2 : Int32) (k3 : Int32) (k4 : Int32) (hW : WOK cy K0 L0 M0) (i0 : isk K0 L0 x0 17 8) (b1 : x1 ≤ 8) (i2 : isk K0 L0 x2 19 40) (b3 : x3 ≤ 40) (i4 : isk K0 L0 x4 7 0) (i5 : isk K0 L0 x5 5 0) (i6 : isk K0 L0 x6 60 24) (i8 : isk K0 L0 x8 73 25) : Met l yX11_join (wsM yX11_join cX11_join 8 (some .int)) ({ frames := 4, cells := 1, slots := 16, locals := 97 }) (va_Pc [.ref xa, .int k1, .int k2, .int k3, .int k4, .int 0] (PG D cy [(xa, .inr (11, [.ref x0, .int (nI x1), .ref x2, .int (nI x3), .ref x4, .ref x5, .ref x6, .int x7, .ref x8, .int x9, .int x10]))] L0 M0 sz)) (va_Qi (fun (r : Int32) (u : Kp × List Nat × Hp) => ext K0 L0 u.1 u.2.1 ∧ WOK cy u.1 u.2.1 u.2.2 ∧ fr K0 L0 [2, 5, 58, 59, 61, 62] M0 u.2.2 ∧ fT 2 K0 L0 [9, 15] M0 u.2.2 ∧ (True)) (fun u t => ∃ (w9 : Int32) (w10 : Int32), PQ D [(xa, .inr (11, [.ref x0, .int (nI x1), .ref x2, .int (nI x3), .ref x4, .ref x5, .ref x6, .int x7, .ref x8, .int w9, .int w10]))] u.2.1 u.2.2 (va_A ([(xa, .inr (11, [.ref x0, .int (nI x1), .ref x2, .int (nI x3), .ref x4, .ref x5, .ref x6, .int x7, .ref x8, .int x9, .int x10]))] ++ va_pl L0 M0) sz) t) (va_A ([(xa, .inr (11, [.ref x0, .int (nI x1), .ref x2, .int (nI x3), .ref x4, .ref x5, .ref x6, .int x7, .ref x8, .int x9, .int x10]))] ++ va_pl L0 M0) sz)) 1 16 (va_A ([(xa, .inr (11, [.ref x0, .int (nI x1), .ref x2, .int (nI x3), .ref x4, .ref x5, .ref x6, .int x7, .ref x8, .int x9, .int x10]))] ++ va_pl L0 M0) sz) := by
  refine Met.ofW (cc := cX11_join) (maxL := 8) (ret := (some .int)) (by decide) rfl ?_
  intro p e s m args below meth c s₁ B hml hv
  obtain ⟨rfl, hsz, hP, hK, hD0, hN⟩ := hv
  have hx := B.exec
  have hb := B.bytes
  have hr := B.returns
  have hts := atoms_spec (ws := (wsM yX11_join cX11_join 8 (some .int))) B.pre
  have hg : ∀ w ∈ lw_good, w.before _ s = true := fun w h => hts w (List.mem_cons_of_mem _ h)
  have hown : s.vm.findClass RX11 = some m.cls := findClass_of_methodNamed B.named
  have hlocks := B.notSynchronized
  subst hsz
  have hD := hD0.self (sz := s.heap.size)
  generalize hAe : va_A ([(xa, .inr (11, [.ref x0, .int (nI x1), .ref x2, .int (nI x3), .ref x4, .ref x5, .ref x6, .int x7, .ref x8, .int x9, .int x10]))] ++ va_pl L0 M0) s.heap.size = A at hD ⊢
  have hA : ∀ q : Nat, s.heap.size ≤ q → A q := fun q h => by rw [← hAe]; exact Or.inr h
  have hS : va_S A s.heap s.heap [] := va_S.rf
  have hl := lv_entry ([.ref xa, .int k1, .int k2, .int k3, .int k4, .int 0]) (n := 8) (Nat.le_of_ble_eq_true rfl)
  rw [lg_entry_eq]
  generalize (lg_sl ([.ref xa, .int k1, .int k2, .int k3, .int k4, .int 0]) ++ List.replicate (8 - (lg_sl ([.ref xa, .int k1, .int k2, .int k3, .int k4, .int 0])).length) Slot.unset).toArray = ls at hl ⊢
  refine W.nameQ (fun Q hQ => ?_)
  refine W.nameR (fun R hR => ?_)
  have hRf : 4 ≤ R.frames := by rw [hR]; exact Nat.le_of_ble_eq_true rfl
  have hRl : 97 ≤ R.locals := by rw [hR]; exact Nat.le_of_ble_eq_true rfl
  have hRc : 1 ≤ R.cells := by rw [hR]; exact Nat.le_of_ble_eq_true rfl
  have hRs : 16 ≤ R.slots := by rw [hR]; exact Nat.le_of_ble_eq_true rfl
  obtain ⟨K, L, M, hX0, hF, hT2, hW, hP, hD, i0, i2, i4, i5, i6, i8⟩ : ∃ (K : Kp) (L : List Nat) (M : Hp), ext K0 L0 K L ∧ fr K0 L0 [2, 5, 58, 59, 61, 62] M0 M ∧ fT 2 K0 L0 [9, 15] M0 M ∧ WOK cy K L M ∧ va_P D vwCl ([(xa, .inr (11, [.ref x0, .int (nI x1), .ref x2, .int (nI x3), .ref x4, .ref x5, .ref x6, .int x7, .ref x8, .int x9, .int x10]))] ++ va_pl L M) s.heap ∧ va_D A ([(xa, .inr (11, [.ref x0, .int (nI x1), .ref x2, .int (nI x3), .ref x4, .ref x5, .ref x6, .int x7, .ref x8, .int x9, .int x10]))] ++ va_pl L M) ∧ isk K L x0 17 8 ∧ isk K L x2 19 40 ∧ isk K L x4 7 0 ∧ isk K L x5 5 0 ∧ isk K L x6 60 24 ∧ isk K L x8 73 25 := ⟨K0, L0, M0, ext.rf, fr.rf, fT.rf, hW, hP, hD, i0, i2, i4, i5, i6, i8⟩
  have hl : lv_has ls 8 [(0, .ref xa), (1, .int k1), (2, .int k2), (3, .int k3), (4, .int k4), (5, .int 0)] := hl
  refine lv_aload_n hx hb dX11_join_0 rfl (lv_at hl 0 rfl) ?_
  refine va_get (D := D) (ci := 11) (v := .ref x5) (C := RX11) (T := TX11) (N := 11) hx hb hg inG11 hown hK hP 0 rfl rfl 5 (by decide) (hg _ wd_371) (fun _ h9 => h9) rfl dX11_join_1 ?_
  obtain ⟨v1_0, v1_1, v1_2, hM1, h1_0, h1_1⟩ := hW.open_5 i5
  have hPc : va_P D vwCl ([] ++ va_pl L M) s.heap := hP.part (cx := []) [] rfl
  have hDc : va_D A ([] ++ va_pl L M) := hD.part (cx := []) [] (by decide) rfl
  have hFc : ∀ q, va_A ([] ++ va_pl L M) s.heap.size q → A q := pg_free hDc hS hA
  refine va_callv (va_runV (As := []) (rest := []) ⟨hx, hb, hml, hown, hg⟩ (s_X5_forget l D cy K L M s.heap.size x5  hW i5) (cwV 0 hg (gV wd_549 wd_550 wd_551 wd_309 wd_552) rfl rfl rfl (by decide +kernel) ⟨(Nat.le_trans (Nat.le_of_ble_eq_true rfl) hRf), (Nat.le_trans (Nat.le_of_ble_eq_true rfl) hRl)⟩) ⟨PG.blind, pg_recv hK hP i5.1 hM1 rfl, fun U hU hW => ⟨rfl, PG.at hPc hK hDc hN hU hW⟩⟩ rfl rfl hl.1 rfl (lv_room (Nat.le_of_ble_eq_true rfl)) dX11_join_4 ⟨(Nat.le_trans (Nat.le_of_ble_eq_true rfl) hRc), (Nat.le_trans (Nat.le_of_ble_eq_true rfl) hRs)⟩) hS (fun q _ h => hFc q h) hFc (fun M_4 t H_2 locs ht hvm hw hB hz1 hk1 hS => ?_)
  obtain ⟨hW, hF2, hp_5⟩ := hw
  obtain ⟨hP1, hD1⟩ := hB
  rw [ht] at hP1
  obtain ⟨hP, hD⟩ := va_joinP (X := [(xa, .inr (11, [.ref x0, .int (nI x1), .ref x2, .int (nI x3), .ref x4, .ref x5, .ref x6, .int x7, .ref x8, .int x9, .int x10]))]) (cx := []) (wr := [(xa, .inr (11, [.ref x0, .int (nI x1), .ref x2, .int (nI x3), .ref x4, .ref x5, .ref x6, .int x7, .ref x8, .int x9, .int x10]))]) (rx := []) (pl := va_pl L M) (pl1 := va_pl L M_4) hP hD [] [0] rfl rfl (by decide) (by decide) hk1 hFc hP1 hD1
  have hP : va_P D vwCl ([(xa, .inr (11, [.ref x0, .int (nI x1), .ref x2, .int (nI x3), .ref x4, .ref x5, .ref x6, .int x7, .ref x8, .int x9, .int x10]))] ++ va_pl L M_4) H_2 := hP
  have hD : va_D A ([(xa, .inr (11, [.ref x0, .int (nI x1), .ref x2, .int (nI x3), .ref x4, .ref x5, .ref x6, .int x7, .ref x8, .int x9, .int x10]))] ++ va_pl L M_4) := hD
  have hF : fr K0 L0 [2, 5, 58, 59, 61, 62] M0 M_4 := hF.trX hX0 hF2 (by decide)
  have hT2 : fT 2 K0 L0 [9, 15] M0 M_4 := hT2.frrX hX0 hF2 (by decide)
  refine lv_aload_n hx hb dX11_join_7 rfl (lv_at hl 0 rfl) ?_
  refine lv_iload_n hx hb dX11_join_8 rfl (lv_at hl 1 rfl) ?_
  have hPc : va_P D vwCl ([(xa, .inr (11, [.ref x0, .int (nI x1), .ref x2, .int (nI x3), .ref x4, .ref x5, .ref x6, .int x7, .ref x8, .int x9, .int x10]))] ++ va_pl L M_4) H_2 := hP
  have hDc : va_D A ([(xa, .inr (11, [.ref x0, .int (nI x1), .ref x2, .int (nI x3), .ref x4, .ref x5, .ref x6, .int x7, .ref x8, .int x9, .int x10]))] ++ va_pl L M_4) := hD
  have hFc : ∀ q, va_A ([(xa, .inr (11, [.ref x0, .int (nI x1), .ref x2, .int (nI x3), .ref x4, .ref x5, .ref x6, .int x7, .ref x8, .int x9, .int x10]))] ++ va_pl L M_4) H_2.size q → A q := pg_free hDc hS hA
  refine va_callq (va_runV (As := [.int k1]) (rest := []) ⟨hx, hb, hml, hown, hg⟩ (s_X11_houseAt l D cy K L M_4 H_2.size xa x0 x1 x2 x3 x4 x5 x6 x7 x8 x9 x10 k1  hW i0 b1 i2 b3 i4 i5 i6 i8) (cwV 1 hg (gV wd_340 wd_341 wd_342 wd_3 wd_343) rfl rfl rfl (by decide +kernel) ⟨(Nat.le_trans (Nat.le_of_ble_eq_true rfl) hRf), (Nat.le_trans (Nat.le_of_ble_eq_true rfl) hRl)⟩) ⟨PG.blind, va_recv hK hP (ci := 11) (q0 := 0) rfl rfl, fun U hU hW => ⟨rfl, PG.at hPc hK hDc hN hU hW⟩⟩ rfl rfl hl.1 rfl (lv_room (Nat.le_of_ble_eq_true rfl)) dX11_join_9 ⟨(Nat.le_trans (Nat.le_of_ble_eq_true rfl) hRc), (Nat.le_trans (Nat.le_of_ble_eq_true rfl) hRs)⟩) hS (fun q _ h => hFc q h) hFc (fun r_7 M_8 t H_6 locs ht hvm hw hB hz1 hk1 hS => ?_)
  have hp_9 := hw
  obtain ⟨hP1, hD1⟩ := hB
  rw [ht] at hP1
  have hP : va_P D vwCl ([(xa, .inr (11, [.ref x0, .int (nI x1), .ref x2, .int (nI x3), .ref x4, .ref x5, .ref x6, .int x7, .ref x8, .int x9, .int x10]))] ++ va_pl L M_4) H_6 := hP1
  have hD : va_D A ([(xa, .inr (11, [.ref x0, .int (nI x1), .ref x2, .int (nI x3), .ref x4, .ref x5, .ref x6, .int x7, .ref x8, .int x9, .int x10]))] ++ va_pl L M_4) := hD1.mono hFc
  rcases r_7 with _ | b_10
  · have hz := rfl (a := 0)
    refine lv_astoreN (lv' := [(6, .null), (0, .ref xa), (1, .int k1), (2, .int k2), (3, .int k3), (4, .int k4), (5, .int 0)]) hx hb dX11_join_12 hl (by decide) rfl (fun ls hl => ?_)
    refine lv_aload_n hx hb dX11_join_14 rfl (lv_at hl 1 rfl) ?_
    refine lv_iload_n hx hb dX11_join_15 rfl (lv_at hl 4 rfl) ?_
    have hPc : va_P D vwCl ([(xa, .inr (11, [.ref x0, .int (nI x1), .ref x2, .int (nI x3), .ref x4, .ref x5, .ref x6, .int x7, .ref x8, .int x9, .int x10]))] ++ va_pl L M_4) H_6 := hP
    have hDc : va_D A ([(xa, .inr (11, [.ref x0, .int (nI x1), .ref x2, .int (nI x3), .ref x4, .ref x5, .ref x6, .int x7, .ref x8, .int x9, .int x10]))] ++ va_pl L M_4) := hD
    have hFc : ∀ q, va_A ([(xa, .inr (11, [.ref x0, .int (nI x1), .ref x2, .int (nI x3), .ref x4, .ref x5, .ref x6, .int x7, .ref x8, .int x9, .int x10]))] ++ va_pl L M_4) H_6.size q → A q := pg_free hDc hS hA
    refine va_callq (va_runV (As := [.int k3]) (rest := []) ⟨hx, hb, hml, hown, hg⟩ (s_X11_partnerAt l D cy K L M_4 H_6.size xa x0 x1 x2 x3 x4 x5 x6 x7 x8 x9 x10 k3  hW i0 b1 i2 b3 i4 i5 i6 i8) (cwV 1 hg (gV wd_553 wd_554 wd_555 wd_3 wd_556) rfl rfl rfl (by decide +kernel) ⟨(Nat.le_trans (Nat.le_of_ble_eq_true rfl) hRf), (Nat.le_trans (Nat.le_of_ble_eq_true rfl) hRl)⟩) ⟨PG.blind, va_recv hK hP (ci := 11) (q0 := 0) rfl rfl, fun U hU hW => ⟨rfl, PG.at hPc hK hDc hN hU hW⟩⟩ rfl rfl hl.1 rfl (lv_room (Nat.le_of_ble_eq_true rfl)) dX11_join_16 ⟨(Nat.le_trans (Nat.le_of_ble_eq_true rfl) hRc), (Nat.le_trans (Nat.le_of_ble_eq_true rfl) hRs)⟩) hS (fun q _ h => hFc q h) hFc (fun r_12 M_13 t H_11 locs ht hvm hw hB hz1 hk1 hS => ?_)
    have hp_14 := hw
    obtain ⟨hP1, hD1⟩ := hB
    rw [ht] at hP1
    have hP : va_P D vwCl ([(xa, .inr (11, [.ref x0, .int (nI x1), .ref x2, .int (nI x3), .ref x4, .ref x5, .ref x6, .int x7, .ref x8, .int x9, .int x10]))] ++ va_pl L M_4) H_11 := hP1
    have hD : va_D A ([(xa, .inr (11, [.ref x0, .int (nI x1), .ref x2, .int (nI x3), .ref x4, .ref x5, .ref x6, .int x7, .ref x8, .int x9, .int x10]))] ++ va_pl L M_4) := hD1.mono hFc
    rcases r_12 with _ | b_15
    · have hz := rfl (a := 0)
      refine lv_astoreN (lv' := [(7, .null), (6, .null), (0, .ref xa), (1, .int k1), (2, .int k2), (3, .int k3), (4, .int k4), (5, .int 0)]) hx hb dX11_join_19 hl (by decide) rfl (fun ls hl => ?_)
      refine lv_aloadN hx hb dX11_join_21 (lv_at hl 1 rfl) ?_
      refine lv_ifnullN (tgt := 38) hx hb dX11_join_23 (by decide) ?_
      refine lv_aload_n hx hb dX11_join_38 rfl (lv_at hl 2 rfl) ?_
      refine lv_iconst (v := 1) hx hb dX11_join_39 (by decide) ?_
      have hPc := hP.sub (ws' := [(xa, .inr (11, [.ref x0, .int (nI x1), .ref x2, .int (nI x3), .ref x4, .ref x5, .ref x6, .int x7, .ref x8, .int x9, .int x10]))]) [0] rfl
      have hDc := hD.sub (ws' := [(xa, .inr (11, [.ref x0, .int (nI x1), .ref x2, .int (nI x3), .ref x4, .ref x5, .ref x6, .int x7, .ref x8, .int x9, .int x10]))]) [0] (by decide) rfl
      have hKc := hK.sub (tys' := []) [] rfl
      have hFc := va_free (wc := [(xa, .inr (11, [.ref x0, .int (nI x1), .ref x2, .int (nI x3), .ref x4, .ref x5, .ref x6, .int x7, .ref x8, .int x9, .int x10]))]) hD hS hA [0] rfl
      refine va_calli (va_runV (As := [.int 1]) (rest := []) ⟨hx, hb, hml, hown, hg⟩ (k_refuse l D H_11.size xa x0 (nI x1) x2 (nI x3) x4 x5 x6 x7 x8 x9 x10 1) (cwV 1 hg (gV wd_344 wd_345 wd_346 wd_3 wd_347) rfl rfl rfl (by decide +kernel) ⟨(Nat.le_trans (Nat.le_of_ble_eq_true rfl) hRf), (Nat.le_trans (Nat.le_of_ble_eq_true rfl) hRl)⟩) ⟨Pr.blind, va_recv hK hP (ci := 11) (q0 := 0) rfl rfl, fun U hU hW => ⟨rfl, Pr.at hPc hKc hDc hN hU hW⟩⟩ rfl rfl hl.1 rfl (lv_room (Nat.le_of_ble_eq_true rfl)) dX11_join_40 ⟨(Nat.le_trans (Nat.le_of_ble_eq_true rfl) hRc), (Nat.le_trans (Nat.le_of_ble_eq_true rfl) hRs)⟩) hS (fun q _ h => hFc q h) hFc (fun r_17 M_18 t H_16 locs ht hvm hw hB hz1 hk1 hS => ?_)
      have hp_19 := hw
      obtain ⟨hP1, hK1, hD1⟩ := hB
      rw [ht] at hP1
      obtain ⟨hP, hD⟩ := va_joinQ (X := [(xa, .inr (11, [.ref x0, .int (nI x1), .ref x2, .int (nI x3), .ref x4, .ref x5, .ref x6, .int x7, .ref x8, .int x9, .int x10]))]) (cx := [(xa, .inr (11, [.ref x0, .int (nI x1), .ref x2, .int (nI x3), .ref x4, .ref x5, .ref x6, .int x7, .ref x8, .int x9, .int x10]))]) (wr := []) (w1 := [(xa, .inr (11, [.ref x0, .int (nI x1), .ref x2, .int (nI x3), .ref x4, .ref x5, .ref x6, .int x7, .ref x8, .int 1, .int (-1)]))]) (pl := va_pl L M_4) hP hD [0] [] rfl rfl (by decide) (by decide) hk1 hFc hP1 hD1
      have hP : va_P D vwCl ([(xa, .inr (11, [.ref x0, .int (nI x1), .ref x2, .int (nI x3), .ref x4, .ref x5, .ref x6, .int x7, .ref x8, .int 1, .int (-1)]))] ++ va_pl L M_4) H_16 := hP
      have hD : va_D A ([(xa, .inr (11, [.ref x0, .int (nI x1), .ref x2, .int (nI x3), .ref x4, .ref x5, .ref x6, .int x7, .ref x8, .int 1, .int (-1)]))] ++ va_pl L M_4) := hD
      have hq := Eq.symm hp_19
      subst hq
      refine W.widen (k := 1) (n := 16) (Nat.le_of_ble_eq_true rfl) (Nat.le_of_ble_eq_true rfl) ?_
      rw [hQ]
      exact W.iret (v := (-1)) hx hb hr (fun t ht hW9 => ⟨⟨(-1), (K, L, M_4), rfl, ⟨hX0, hW, hF, hT2, trivial⟩, ⟨1, (-1), by rw [ht]; exact hP, hD⟩⟩, hS.F ht⟩) hS.2.2 dX11_join_43
    · have hb_20 := hp_14 b_15 rfl
      refine lv_astore (lv' := [(7, .ref b_15), (6, .null), (0, .ref xa), (1, .int k1), (2, .int k2), (3, .int k3), (4, .int k4), (5, .int 0)]) hx hb dX11_join_19 hl (by decide) rfl (fun ls hl => ?_)
      refine lv_aloadN hx hb dX11_join_21 (lv_at hl 1 rfl) ?_
      refine lv_ifnullN (tgt := 38) hx hb dX11_join_23 (by decide) ?_
      refine lv_aload_n hx hb dX11_join_38 rfl (lv_at hl 2 rfl) ?_
      refine lv_iconst (v := 1) hx hb dX11_join_39 (by decide) ?_
      have hPc := hP.sub (ws' := [(xa, .inr (11, [.ref x0, .int (nI x1), .ref x2, .int (nI x3), .ref x4, .ref x5, .ref x6, .int x7, .ref x8, .int x9, .int x10]))]) [0] rfl
      have hDc := hD.sub (ws' := [(xa, .inr (11, [.ref x0, .int (nI x1), .ref x2, .int (nI x3), .ref x4, .ref x5, .ref x6, .int x7, .ref x8, .int x9, .int x10]))]) [0] (by decide) rfl
      have hKc := hK.sub (tys' := []) [] rfl
      have hFc := va_free (wc := [(xa, .inr (11, [.ref x0, .int (nI x1), .ref x2, .int (nI x3), .ref x4, .ref x5, .ref x6, .int x7, .ref x8, .int x9, .int x10]))]) hD hS hA [0] rfl
      refine va_calli (va_runV (As := [.int 1]) (rest := []) ⟨hx, hb, hml, hown, hg⟩ (k_refuse l D H_11.size xa x0 (nI x1) x2 (nI x3) x4 x5 x6 x7 x8 x9 x10 1) (cwV 1 hg (gV wd_344 wd_345 wd_346 wd_3 wd_347) rfl rfl rfl (by decide +kernel) ⟨(Nat.le_trans (Nat.le_of_ble_eq_true rfl) hRf), (Nat.le_trans (Nat.le_of_ble_eq_true rfl) hRl)⟩) ⟨Pr.blind, va_recv hK hP (ci := 11) (q0 := 0) rfl rfl, fun U hU hW => ⟨rfl, Pr.at hPc hKc hDc hN hU hW⟩⟩ rfl rfl hl.1 rfl (lv_room (Nat.le_of_ble_eq_true rfl)) dX11_join_40 ⟨(Nat.le_trans (Nat.le_of_ble_eq_true rfl) hRc), (Nat.le_trans (Nat.le_of_ble_eq_true rfl) hRs)⟩) hS (fun q _ h => hFc q h) hFc (fun r_22 M_23 t H_21 locs ht hvm hw hB hz1 hk1 hS => ?_)
      have hp_24 := hw
      obtain ⟨hP1, hK1, hD1⟩ := hB
      rw [ht] at hP1
      obtain ⟨hP, hD⟩ := va_joinQ (X := [(xa, .inr (11, [.ref x0, .int (nI x1), .ref x2, .int (nI x3), .ref x4, .ref x5, .ref x6, .int x7, .ref x8, .int x9, .int x10]))]) (cx := [(xa, .inr (11, [.ref x0, .int (nI x1), .ref x2, .int (nI x3), .ref x4, .ref x5, .ref x6, .int x7, .ref x8, .int x9, .int x10]))]) (wr := []) (w1 := [(xa, .inr (11, [.ref x0, .int (nI x1), .ref x2, .int (nI x3), .ref x4, .ref x5, .ref x6, .int x7, .ref x8, .int 1, .int (-1)]))]) (pl := va_pl L M_4) hP hD [0] [] rfl rfl (by decide) (by decide) hk1 hFc hP1 hD1
      have hP : va_P D vwCl ([(xa, .inr (11, [.ref x0, .int (nI x1), .ref x2, .int (nI x3), .ref x4, .ref x5, .ref x6, .int x7, .ref x8, .int 1, .int (-1)]))] ++ va_pl L M_4) H_21 := hP
      have hD : va_D A ([(xa, .inr (11, [.ref x0, .int (nI x1), .ref x2, .int (nI x3), .ref x4, .ref x5, .ref x6, .int x7, .ref x8, .int 1, .int (-1)]))] ++ va_pl L M_4) := hD
      have hq := Eq.symm hp_24
      subst hq
      refine W.widen (k := 1) (n := 16) (Nat.le_of_ble_eq_true rfl) (Nat.le_of_ble_eq_true rfl) ?_
      rw [hQ]
      exact W.iret (v := (-1)) hx hb hr (fun t ht hW9 => ⟨⟨(-1), (K, L, M_4), rfl, ⟨hX0, hW, hF, hT2, trivial⟩, ⟨1, (-1), by rw [ht]; exact hP, hD⟩⟩, hS.F ht⟩) hS.2.2 dX11_join_43
  · have hb_25 := hp_9 b_10 rfl
    refine lv_astore (lv' := [(6, .ref b_10), (0, .ref xa), (1, .int k1), (2, .int k2), (3, .int k3), (4, .int k4), (5, .int 0)]) hx hb dX11_join_12 hl (by decide) rfl (fun ls hl => ?_)
    refine lv_aload_n hx hb dX11_join_14 rfl (lv_at hl 1 rfl) ?_
    refine lv_iload_n hx hb dX11_join_15 rfl (lv_at hl 4 rfl) ?_
    have hPc : va_P D vwCl ([(xa, .inr (11, [.ref x0, .int (nI x1), .ref x2, .int (nI x3), .ref x4, .ref x5, .ref x6, .int x7, .ref x8, .int x9, .int x10]))] ++ va_pl L M_4) H_6 := hP
    have hDc : va_D A ([(xa, .inr (11, [.ref x0, .int (nI x1), .ref x2, .int (nI x3), .ref x4, .ref x5, .ref x6, .int x7, .ref x8, .int x9, .int x10]))] ++ va_pl L M_4) := hD
    have hFc : ∀ q, va_A ([(xa, .inr (11, [.ref x0, .int (nI x1), .ref x2, .int (nI x3), .ref x4, .ref x5, .ref x6, .int x7, .ref x8, .int x9, .int x10]))] ++ va_pl L M_4) H_6.size q → A q := pg_free hDc hS hA
    refine va_callq (va_runV (As := [.int k3]) (rest := []) ⟨hx, hb, hml, hown, hg⟩ (s_X11_partnerAt l D cy K L M_4 H_6.size xa x0 x1 x2 x3 x4 x5 x6 x7 x8 x9 x10 k3  hW i0 b1 i2 b3 i4 i5 i6 i8) (cwV 1 hg (gV wd_553 wd_554 wd_555 wd_3 wd_556) rfl rfl rfl (by decide +kernel) ⟨(Nat.le_trans (Nat.le_of_ble_eq_true rfl) hRf), (Nat.le_trans (Nat.le_of_ble_eq_true rfl) hRl)⟩) ⟨PG.blind, va_recv hK hP (ci := 11) (q0 := 0) rfl rfl, fun U hU hW => ⟨rfl, PG.at hPc hK hDc hN hU hW⟩⟩ rfl rfl hl.1 rfl (lv_room (Nat.le_of_ble_eq_true rfl)) dX11_join_16 ⟨(Nat.le_trans (Nat.le_of_ble_eq_true rfl) hRc), (Nat.le_trans (Nat.le_of_ble_eq_true rfl) hRs)⟩) hS (fun q _ h => hFc q h) hFc (fun r_27 M_28 t H_26 locs ht hvm hw hB hz1 hk1 hS => ?_)
    have hp_29 := hw
    obtain ⟨hP1, hD1⟩ := hB
    rw [ht] at hP1
    have hP : va_P D vwCl ([(xa, .inr (11, [.ref x0, .int (nI x1), .ref x2, .int (nI x3), .ref x4, .ref x5, .ref x6, .int x7, .ref x8, .int x9, .int x10]))] ++ va_pl L M_4) H_26 := hP1
    have hD : va_D A ([(xa, .inr (11, [.ref x0, .int (nI x1), .ref x2, .int (nI x3), .ref x4, .ref x5, .ref x6, .int x7, .ref x8, .int x9, .int x10]))] ++ va_pl L M_4) := hD1.mono hFc
    rcases r_27 with _ | b_30
    · have hz := rfl (a := 0)
      refine lv_astoreN (lv' := [(7, .null), (6, .ref b_10), (0, .ref xa), (1, .int k1), (2, .int k2), (3, .int k3), (4, .int k4), (5, .int 0)]) hx hb dX11_join_19 hl (by decide) rfl (fun ls hl => ?_)
      refine lv_aload hx hb dX11_join_21 (lv_at hl 1 rfl) ?_
      refine lv_ifnull hx hb dX11_join_23 ?_
      refine lv_aloadN hx hb dX11_join_26 (lv_at hl 0 rfl) ?_
      refine lv_ifnullN (tgt := 38) hx hb dX11_join_28 (by decide) ?_
      refine lv_aload_n hx hb dX11_join_38 rfl (lv_at hl 2 rfl) ?_
      refine lv_iconst (v := 1) hx hb dX11_join_39 (by decide) ?_
      have hPc := hP.sub (ws' := [(xa, .inr (11, [.ref x0, .int (nI x1), .ref x2, .int (nI x3), .ref x4, .ref x5, .ref x6, .int x7, .ref x8, .int x9, .int x10]))]) [0] rfl
      have hDc := hD.sub (ws' := [(xa, .inr (11, [.ref x0, .int (nI x1), .ref x2, .int (nI x3), .ref x4, .ref x5, .ref x6, .int x7, .ref x8, .int x9, .int x10]))]) [0] (by decide) rfl
      have hKc := hK.sub (tys' := []) [] rfl
      have hFc := va_free (wc := [(xa, .inr (11, [.ref x0, .int (nI x1), .ref x2, .int (nI x3), .ref x4, .ref x5, .ref x6, .int x7, .ref x8, .int x9, .int x10]))]) hD hS hA [0] rfl
      refine va_calli (va_runV (As := [.int 1]) (rest := []) ⟨hx, hb, hml, hown, hg⟩ (k_refuse l D H_26.size xa x0 (nI x1) x2 (nI x3) x4 x5 x6 x7 x8 x9 x10 1) (cwV 1 hg (gV wd_344 wd_345 wd_346 wd_3 wd_347) rfl rfl rfl (by decide +kernel) ⟨(Nat.le_trans (Nat.le_of_ble_eq_true rfl) hRf), (Nat.le_trans (Nat.le_of_ble_eq_true rfl) hRl)⟩) ⟨Pr.blind, va_recv hK hP (ci := 11) (q0 := 0) rfl rfl, fun U hU hW => ⟨rfl, Pr.at hPc hKc hDc hN hU hW⟩⟩ rfl rfl hl.1 rfl (lv_room (Nat.le_of_ble_eq_true rfl)) dX11_join_40 ⟨(Nat.le_trans (Nat.le_of_ble_eq_true rfl) hRc), (Nat.le_trans (Nat.le_of_ble_eq_true rfl) hRs)⟩) hS (fun q _ h => hFc q h) hFc (fun r_32 M_33 t H_31 locs ht hvm hw hB hz1 hk1 hS => ?_)
      have hp_34 := hw
      obtain ⟨hP1, hK1, hD1⟩ := hB
      rw [ht] at hP1
      obtain ⟨hP, hD⟩ := va_joinQ (X := [(xa, .inr (11, [.ref x0, .int (nI x1), .ref x2, .int (nI x3), .ref x4, .ref x5, .ref x6, .int x7, .ref x8, .int x9, .int x10]))]) (cx := [(xa, .inr (11, [.ref x0, .int (nI x1), .ref x2, .int (nI x3), .ref x4, .ref x5, .ref x6, .int x7, .ref x8, .int x9, .int x10]))]) (wr := []) (w1 := [(xa, .inr (11, [.ref x0, .int (nI x1), .ref x2, .int (nI x3), .ref x4, .ref x5, .ref x6, .int x7, .ref x8, .int 1, .int (-1)]))]) (pl := va_pl L M_4) hP hD [0] [] rfl rfl (by decide) (by decide) hk1 hFc hP1 hD1
      have hP : va_P D vwCl ([(xa, .inr (11, [.ref x0, .int (nI x1), .ref x2, .int (nI x3), .ref x4, .ref x5, .ref x6, .int x7, .ref x8, .int 1, .int (-1)]))] ++ va_pl L M_4) H_31 := hP
      have hD : va_D A ([(xa, .inr (11, [.ref x0, .int (nI x1), .ref x2, .int (nI x3), .ref x4, .ref x5, .ref x6, .int x7, .ref x8, .int 1, .int (-1)]))] ++ va_pl L M_4) := hD
      have hq := Eq.symm hp_34
      subst hq
      refine W.widen (k := 1) (n := 16) (Nat.le_of_ble_eq_true rfl) (Nat.le_of_ble_eq_true rfl) ?_
      rw [hQ]
      exact W.iret (v := (-1)) hx hb hr (fun t ht hW9 => ⟨⟨(-1), (K, L, M_4), rfl, ⟨hX0, hW, hF, hT2, trivial⟩, ⟨1, (-1), by rw [ht]; exact hP, hD⟩⟩, hS.F ht⟩) hS.2.2 dX11_join_43
    · have hb_35 := hp_29 b_30 rfl
      refine lv_astore (lv' := [(7, .ref b_30), (6, .ref b_10), (0, .ref xa), (1, .int k1), (2, .int k2), (3, .int k3), (4, .int k4), (5, .int 0)]) hx hb dX11_join_19 hl (by decide) rfl (fun ls hl => ?_)
      refine lv_aload hx hb dX11_join_21 (lv_at hl 1 rfl) ?_
      refine lv_ifnull hx hb dX11_join_23 ?_
      refine lv_aload hx hb dX11_join_26 (lv_at hl 0 rfl) ?_
      refine lv_ifnull hx hb dX11_join_28 ?_
      refine lv_iload_n hx hb dX11_join_31 rfl (lv_at hl 4 rfl) ?_
      have hPc : va_P D vwCl ([] ++ va_pl L M_4) H_26 := hP.part (cx := []) [] rfl
      have hDc : va_D A ([] ++ va_pl L M_4) := hD.part (cx := []) [] (by decide) rfl
      have hFc : ∀ q, va_A ([] ++ va_pl L M_4) H_26.size q → A q := pg_free hDc hS hA
      refine va_calli (va_runS (As := [.int k2]) (rest := []) ⟨hx, hb, hml, hown, hg⟩ (s_X11_isSeat l D cy K L M_4 H_26.size k2  hW ) (va_cwS 1 hg (gS wd_348 wd_47 wd_3 wd_46) rfl rfl rfl (by decide +kernel) ⟨(Nat.le_trans (Nat.le_of_ble_eq_true rfl) hRf), (Nat.le_trans (Nat.le_of_ble_eq_true rfl) hRl)⟩) ⟨PG.blind, fun U hU hW => ⟨rfl, PG.at hPc hK hDc hN hU hW⟩⟩ rfl rfl hl.1 rfl (lv_room (Nat.le_of_ble_eq_true rfl)) dX11_join_32 ⟨(Nat.le_trans (Nat.le_of_ble_eq_true rfl) hRc), (Nat.le_trans (Nat.le_of_ble_eq_true rfl) hRs)⟩) hS (fun q _ h => hFc q h) hFc (fun r_37 M_38 t H_36 locs ht hvm hw hB hz1 hk1 hS => ?_)
      have hp_39 := hw
      obtain ⟨hP1, hD1⟩ := hB
      rw [ht] at hP1
      obtain ⟨hP, hD⟩ := va_joinP (X := [(xa, .inr (11, [.ref x0, .int (nI x1), .ref x2, .int (nI x3), .ref x4, .ref x5, .ref x6, .int x7, .ref x8, .int x9, .int x10]))]) (cx := []) (wr := [(xa, .inr (11, [.ref x0, .int (nI x1), .ref x2, .int (nI x3), .ref x4, .ref x5, .ref x6, .int x7, .ref x8, .int x9, .int x10]))]) (rx := []) (pl := va_pl L M_4) (pl1 := va_pl L M_4) hP hD [] [0] rfl rfl (by decide) (by decide) hk1 hFc hP1 hD1
      have hP : va_P D vwCl ([(xa, .inr (11, [.ref x0, .int (nI x1), .ref x2, .int (nI x3), .ref x4, .ref x5, .ref x6, .int x7, .ref x8, .int x9, .int x10]))] ++ va_pl L M_4) H_36 := hP
      have hD : va_D A ([(xa, .inr (11, [.ref x0, .int (nI x1), .ref x2, .int (nI x3), .ref x4, .ref x5, .ref x6, .int x7, .ref x8, .int x9, .int x10]))] ++ va_pl L M_4) := hD
      rcases hp_39 with ⟨rfl, c_40, c_41⟩ | rfl
      · have hz := rfl (a := 0)
        refine lv_if_ne (tgt := 44) hx hb dX11_join_35 (by decide) (fun _ => ?_) (fun c_42 => absurd c_42 (by decide))
        refine lv_aload hx hb dX11_join_44 (lv_at hl 1 rfl) ?_
        refine lv_iload hx hb dX11_join_46 (lv_at hl 6 rfl) ?_
        obtain ⟨v43_0, v43_1, v43_2, v43_3, v43_4, v43_5, v43_6, v43_7, v43_8, v43_9, v43_10, v43_11, v43_12, v43_13, v43_14, v43_15, v43_16, v43_17, v43_18, v43_19, hM43, h43_3, h43_4, h43_5, h43_6, h43_7, h43_8, h43_9, h43_10, h43_11, h43_12, h43_13, h43_16, h43_17, h43_18, h43_19⟩ := hW.open_2 hb_25
        have hPc : va_P D vwCl ([] ++ va_pl L M_4) H_36 := hP.part (cx := []) [] rfl
        have hDc : va_D A ([] ++ va_pl L M_4) := hD.part (cx := []) [] (by decide) rfl
        have hFc : ∀ q, va_A ([] ++ va_pl L M_4) H_36.size q → A q := pg_free hDc hS hA
        refine va_calli (va_runV (As := [.int k4]) (rest := []) ⟨hx, hb, hml, hown, hg⟩ (s_X2_isFree l D cy K L M_4 H_36.size b_10 k4  hW hb_25) (cwV 1 hg (gV wd_361 wd_362 wd_363 wd_57 wd_364) rfl rfl rfl (by decide +kernel) ⟨(Nat.le_trans (Nat.le_of_ble_eq_true rfl) hRf), (Nat.le_trans (Nat.le_of_ble_eq_true rfl) hRl)⟩) ⟨PG.blind, pg_recv hK hP hb_25.1 hM43 rfl, fun U hU hW => ⟨rfl, PG.at hPc hK hDc hN hU hW⟩⟩ rfl rfl hl.1 rfl (lv_room (Nat.le_of_ble_eq_true rfl)) dX11_join_48 ⟨(Nat.le_trans (Nat.le_of_ble_eq_true rfl) hRc), (Nat.le_trans (Nat.le_of_ble_eq_true rfl) hRs)⟩) hS (fun q _ h => hFc q h) hFc (fun r_45 M_46 t H_44 locs ht hvm hw hB hz1 hk1 hS => ?_)
        have hp_47 := hw
        obtain ⟨hP1, hD1⟩ := hB
        rw [ht] at hP1
        obtain ⟨hP, hD⟩ := va_joinP (X := [(xa, .inr (11, [.ref x0, .int (nI x1), .ref x2, .int (nI x3), .ref x4, .ref x5, .ref x6, .int x7, .ref x8, .int x9, .int x10]))]) (cx := []) (wr := [(xa, .inr (11, [.ref x0, .int (nI x1), .ref x2, .int (nI x3), .ref x4, .ref x5, .ref x6, .int x7, .ref x8, .int x9, .int x10]))]) (rx := []) (pl := va_pl L M_4) (pl1 := va_pl L M_4) hP hD [] [0] rfl rfl (by decide) (by decide) hk1 hFc hP1 hD1
        have hP : va_P D vwCl ([(xa, .inr (11, [.ref x0, .int (nI x1), .ref x2, .int (nI x3), .ref x4, .ref x5, .ref x6, .int x7, .ref x8, .int x9, .int x10]))] ++ va_pl L M_4) H_44 := hP
        have hD : va_D A ([(xa, .inr (11, [.ref x0, .int (nI x1), .ref x2, .int (nI x3), .ref x4, .ref x5, .ref x6, .int x7, .ref x8, .int x9, .int x10]))] ++ va_pl L M_4) := hD
        rcases hp_47 with ⟨rfl, c_48, c_49⟩ | rfl
        · have hz := rfl (a := 0)
          refine lv_if_ne (tgt := 60) hx hb dX11_join_51 (by decide) (fun _ => ?_) (fun c_50 => absurd c_50 (by decide))
          refine lv_aload hx hb dX11_join_60 (lv_at hl 1 rfl) ?_
          refine pg_get (D := D) (ci := 2) (v := .ref v43_6) (C := RX2) (T := TX2) (N := 20) hx hb hg inG2 hown hK hP hb_25.1 hM43 rfl 6 (by decide) (hg _ wd_350) (fun _ h9 => h9) rfl dX11_join_62 ?_
          refine lv_iload_n hx hb dX11_join_65 rfl (lv_at hl 4 rfl) ?_
          obtain ⟨f51, hM51⟩ := hW.open_52 h43_6
          refine pg_iald hx hb hK hP h43_6.1 0 hM51 rfl (inb k2 6 (by omega) c_40 c_41) dX11_join_66 ?_
          refine lv_topi (fun f_52 ef_52 => ?_)
          refine lv_if_ne (tgt := 81) hx hb dX11_join_67 (by decide) (fun c_53 => ?_) (fun c_53 => ?_)
          · have hz := rfl (a := 0)
            refine lv_aload_n hx hb dX11_join_81 rfl (lv_at hl 2 rfl) ?_
            refine lv_iconst (v := 4) hx hb dX11_join_82 (by decide) ?_
            have hPc := hP.sub (ws' := [(xa, .inr (11, [.ref x0, .int (nI x1), .ref x2, .int (nI x3), .ref x4, .ref x5, .ref x6, .int x7, .ref x8, .int x9, .int x10]))]) [0] rfl
            have hDc := hD.sub (ws' := [(xa, .inr (11, [.ref x0, .int (nI x1), .ref x2, .int (nI x3), .ref x4, .ref x5, .ref x6, .int x7, .ref x8, .int x9, .int x10]))]) [0] (by decide) rfl
            have hKc := hK.sub (tys' := []) [] rfl
            have hFc := va_free (wc := [(xa, .inr (11, [.ref x0, .int (nI x1), .ref x2, .int (nI x3), .ref x4, .ref x5, .ref x6, .int x7, .ref x8, .int x9, .int x10]))]) hD hS hA [0] rfl
            refine va_calli (va_runV (As := [.int 4]) (rest := []) ⟨hx, hb, hml, hown, hg⟩ (k_refuse l D H_44.size xa x0 (nI x1) x2 (nI x3) x4 x5 x6 x7 x8 x9 x10 4) (cwV 1 hg (gV wd_344 wd_345 wd_346 wd_3 wd_347) rfl rfl rfl (by decide +kernel) ⟨(Nat.le_trans (Nat.le_of_ble_eq_true rfl) hRf), (Nat.le_trans (Nat.le_of_ble_eq_true rfl) hRl)⟩) ⟨Pr.blind, va_recv hK hP (ci := 11) (q0 := 0) rfl rfl, fun U hU hW => ⟨rfl, Pr.at hPc hKc hDc hN hU hW⟩⟩ rfl rfl hl.1 rfl (lv_room (Nat.le_of_ble_eq_true rfl)) dX11_join_83 ⟨(Nat.le_trans (Nat.le_of_ble_eq_true rfl) hRc), (Nat.le_trans (Nat.le_of_ble_eq_true rfl) hRs)⟩) hS (fun q _ h => hFc q h) hFc (fun r_55 M_56 t H_54 locs ht hvm hw hB hz1 hk1 hS => ?_)
            have hp_57 := hw
            obtain ⟨hP1, hK1, hD1⟩ := hB
            rw [ht] at hP1
            obtain ⟨hP, hD⟩ := va_joinQ (X := [(xa, .inr (11, [.ref x0, .int (nI x1), .ref x2, .int (nI x3), .ref x4, .ref x5, .ref x6, .int x7, .ref x8, .int x9, .int x10]))]) (cx := [(xa, .inr (11, [.ref x0, .int (nI x1), .ref x2, .int (nI x3), .ref x4, .ref x5, .ref x6, .int x7, .ref x8, .int x9, .int x10]))]) (wr := []) (w1 := [(xa, .inr (11, [.ref x0, .int (nI x1), .ref x2, .int (nI x3), .ref x4, .ref x5, .ref x6, .int x7, .ref x8, .int 4, .int (-1)]))]) (pl := va_pl L M_4) hP hD [0] [] rfl rfl (by decide) (by decide) hk1 hFc hP1 hD1
            have hP : va_P D vwCl ([(xa, .inr (11, [.ref x0, .int (nI x1), .ref x2, .int (nI x3), .ref x4, .ref x5, .ref x6, .int x7, .ref x8, .int 4, .int (-1)]))] ++ va_pl L M_4) H_54 := hP
            have hD : va_D A ([(xa, .inr (11, [.ref x0, .int (nI x1), .ref x2, .int (nI x3), .ref x4, .ref x5, .ref x6, .int x7, .ref x8, .int 4, .int (-1)]))] ++ va_pl L M_4) := hD
            have hq := Eq.symm hp_57
            subst hq
            refine W.widen (k := 1) (n := 16) (Nat.le_of_ble_eq_true rfl) (Nat.le_of_ble_eq_true rfl) ?_
            rw [hQ]
            exact W.iret (v := (-1)) hx hb hr (fun t ht hW9 => ⟨⟨(-1), (K, L, M_4), rfl, ⟨hX0, hW, hF, hT2, trivial⟩, ⟨4, (-1), by rw [ht]; exact hP, hD⟩⟩, hS.F ht⟩) hS.2.2 dX11_join_86
          · have hz := rfl (a := 0)
            refine lv_aload hx hb dX11_join_70 (lv_at hl 1 rfl) ?_
            refine lv_iload_n hx hb dX11_join_72 rfl (lv_at hl 4 rfl) ?_
            refine lv_iload hx hb dX11_join_73 (lv_at hl 6 rfl) ?_
            have hPc : va_P D vwCl ([] ++ va_pl L M_4) H_44 := hP.part (cx := []) [] rfl
            have hDc : va_D A ([] ++ va_pl L M_4) := hD.part (cx := []) [] (by decide) rfl
            have hFc : ∀ q, va_A ([] ++ va_pl L M_4) H_44.size q → A q := pg_free hDc hS hA
            refine va_calli (va_runV (As := [.int k2, .int k4]) (rest := []) ⟨hx, hb, hml, hown, hg⟩ (s_X2_isVacantFrom l D cy K L M_4 H_44.size b_10 k2 k4  hW hb_25) (cwV 2 hg (gV wd_557 wd_558 wd_559 wd_57 wd_560) rfl rfl rfl (by decide +kernel) ⟨(Nat.le_trans (Nat.le_of_ble_eq_true rfl) hRf), (Nat.le_trans (Nat.le_of_ble_eq_true rfl) hRl)⟩) ⟨PG.blind, pg_recv hK hP hb_25.1 hM43 rfl, fun U hU hW => ⟨rfl, PG.at hPc hK hDc hN hU hW⟩⟩ rfl rfl hl.1 rfl (lv_room (Nat.le_of_ble_eq_true rfl)) dX11_join_75 ⟨(Nat.le_trans (Nat.le_of_ble_eq_true rfl) hRc), (Nat.le_trans (Nat.le_of_ble_eq_true rfl) hRs)⟩) hS (fun q _ h => hFc q h) hFc (fun r_59 M_60 t H_58 locs ht hvm hw hB hz1 hk1 hS => ?_)
            have hp_61 := hw
            obtain ⟨hP1, hD1⟩ := hB
            rw [ht] at hP1
            obtain ⟨hP, hD⟩ := va_joinP (X := [(xa, .inr (11, [.ref x0, .int (nI x1), .ref x2, .int (nI x3), .ref x4, .ref x5, .ref x6, .int x7, .ref x8, .int x9, .int x10]))]) (cx := []) (wr := [(xa, .inr (11, [.ref x0, .int (nI x1), .ref x2, .int (nI x3), .ref x4, .ref x5, .ref x6, .int x7, .ref x8, .int x9, .int x10]))]) (rx := []) (pl := va_pl L M_4) (pl1 := va_pl L M_4) hP hD [] [0] rfl rfl (by decide) (by decide) hk1 hFc hP1 hD1
            have hP : va_P D vwCl ([(xa, .inr (11, [.ref x0, .int (nI x1), .ref x2, .int (nI x3), .ref x4, .ref x5, .ref x6, .int x7, .ref x8, .int x9, .int x10]))] ++ va_pl L M_4) H_58 := hP
            have hD : va_D A ([(xa, .inr (11, [.ref x0, .int (nI x1), .ref x2, .int (nI x3), .ref x4, .ref x5, .ref x6, .int x7, .ref x8, .int x9, .int x10]))] ++ va_pl L M_4) := hD
            rcases hp_61 with rfl | rfl
            · have hz := rfl (a := 0)
              refine lv_if_ne (tgt := 87) hx hb dX11_join_78 (by decide) (fun _ => ?_) (fun c_62 => absurd c_62 (by decide))
              refine lv_aload hx hb dX11_join_87 (lv_at hl 0 rfl) ?_
              obtain ⟨v63_0, v63_1, v63_2, v63_3, hM63, h63_3⟩ := hW.open_4 hb_35
              refine pg_get (D := D) (ci := 4) (v := va_rf v63_3) (C := RX4) (T := TX4) (N := 4) hx hb hg inG4 hown hK hP hb_35.1 hM63 rfl 3 (by decide) (hg _ wd_561) (fun _ h9 => h9) rfl dX11_join_89 ?_
              rcases v63_3 with _ | b_64
              · have hz := rfl (a := 0)
                refine lv_ifnullN (tgt := 133) hx hb dX11_join_92 (by decide) ?_
                refine lv_aload hx hb dX11_join_133 (lv_at hl 1 rfl) ?_
                refine pg_get (D := D) (ci := 2) (v := .int (nI v43_9)) (C := RX2) (T := TX2) (N := 20) hx hb hg inG2 hown hK hP hb_25.1 hM43 rfl 9 (by decide) (hg _ wd_465) (fun _ h9 => h9) rfl dX11_join_135 ?_
                refine lv_bipush (v := 24) hx hb dX11_join_138 (by decide) ?_
                refine lv_icmp_lt (tgt := 150) hx hb dX11_join_140 (by decide) (fun c_65 => ?_) (fun c_65 => ?_)
                · have hz := rfl (a := 0)
                  have n_66 : v43_9 < 24 := (iLT (a := v43_9) (b := 24) (by omega) (by omega)).mp c_65
                  refine lv_aload_n hx hb dX11_join_150 rfl (lv_at hl 2 rfl) ?_
                  refine lv_aload hx hb dX11_join_151 (lv_at hl 1 rfl) ?_
                  refine lv_aload hx hb dX11_join_153 (lv_at hl 0 rfl) ?_
                  refine lv_iload_n hx hb dX11_join_155 rfl (lv_at hl 4 rfl) ?_
                  refine lv_iload hx hb dX11_join_156 (lv_at hl 6 rfl) ?_
                  refine lv_iload hx hb dX11_join_158 (lv_at hl 7 rfl) ?_
                  have hPc : va_P D vwCl ([] ++ va_pl L M_4) H_58 := hP.part (cx := []) [] rfl
                  have hDc : va_D A ([] ++ va_pl L M_4) := hD.part (cx := []) [] (by decide) rfl
                  have hFc : ∀ q, va_A ([] ++ va_pl L M_4) H_58.size q → A q := pg_free hDc hS hA
                  refine va_calli (va_runV (As := [.ref b_30, .int k2, .int k4, .int 0]) (rest := [.ref xa]) ⟨hx, hb, hml, hown, hg⟩ (s_addTenure_0 l D cy K L M_4 H_58.size b_10 b_30 k2 k4  hW hb_25 hb_35) (cwV 4 hg (gV wd_562 wd_563 wd_564 wd_57 wd_565) rfl rfl rfl (by decide +kernel) ⟨(Nat.le_trans (Nat.le_of_ble_eq_true rfl) hRf), (Nat.le_trans (Nat.le_of_ble_eq_true rfl) hRl)⟩) ⟨PG.blind, pg_recv hK hP hb_25.1 hM43 rfl, fun U hU hW => ⟨rfl, PG.at hPc hK hDc hN hU hW⟩⟩ rfl rfl hl.1 rfl (lv_room (Nat.le_of_ble_eq_true rfl)) dX11_join_160 ⟨(Nat.le_trans (Nat.le_of_ble_eq_true rfl) hRc), (Nat.le_trans (Nat.le_of_ble_eq_true rfl) hRs)⟩) hS (fun q _ h => hFc q h) hFc (fun r_68 M_69 t H_67 locs ht hvm hw hB hz1 hk1 hS => ?_)
                  obtain ⟨K9, L9, M_69m⟩ := M_69
                  dsimp only at hw hB
                  obtain ⟨hx9, hW, hF2, gT2, hp_70⟩ := hw
                  obtain ⟨hP1, hD1⟩ := hB
                  rw [ht] at hP1
                  obtain ⟨hP, hD⟩ := va_joinP (X := [(xa, .inr (11, [.ref x0, .int (nI x1), .ref x2, .int (nI x3), .ref x4, .ref x5, .ref x6, .int x7, .ref x8, .int x9, .int x10]))]) (cx := []) (wr := [(xa, .inr (11, [.ref x0, .int (nI x1), .ref x2, .int (nI x3), .ref x4, .ref x5, .ref x6, .int x7, .ref x8, .int x9, .int x10]))]) (rx := []) (pl := va_pl L M_4) (pl1 := va_pl L9 M_69m) hP hD [] [0] rfl rfl (by decide) (by decide) hk1 hFc hP1 hD1
                  have hP : va_P D vwCl ([(xa, .inr (11, [.ref x0, .int (nI x1), .ref x2, .int (nI x3), .ref x4, .ref x5, .ref x6, .int x7, .ref x8, .int x9, .int x10]))] ++ va_pl L9 M_69m) H_67 := hP
                  have hD : va_D A ([(xa, .inr (11, [.ref x0, .int (nI x1), .ref x2, .int (nI x3), .ref x4, .ref x5, .ref x6, .int x7, .ref x8, .int x9, .int x10]))] ++ va_pl L9 M_69m) := hD
                  have hM_71 : M_69m v43_6 = .inl (cy 14, 6, .inl (f51)) := (hF2.at h43_6 (by decide)).trans hM51
                  have hM_72 : M_69m b_30 = .inr (4, [.int v63_0, .int v63_1, .int v63_2, va_rf none]) := (hF2.at hb_35 (by decide)).trans hM63
                  have hF : fr K0 L0 [2, 5, 58, 59, 61, 62] M0 M_69m := hF.trX hX0 hF2 (by decide)
                  have hT2 : fT 2 K0 L0 [9, 15] M0 M_69m := hT2.trX hX0 gT2 (by decide)
                  have hX0 := hX0.tr hx9
                  have i_73 := i0.ext hx9
                  have i_74 := i2.ext hx9
                  have i_75 := i4.ext hx9
                  have i_76 := i5.ext hx9
                  have i_77 := i6.ext hx9
                  have i_78 := i8.ext hx9
                  have i_79 := hb_25.ext hx9
                  have i_80 := hb_35.ext hx9
                  have i_81 := h43_6.ext hx9
                  obtain ⟨K, L, hK9, hL9⟩ : ∃ (K : Kp) (L : List Nat), K = K9 ∧ L = L9 := ⟨_, _, rfl, rfl⟩
                  subst hK9
                  subst hL9
                  refine W.widen (k := 1) (n := 16) (Nat.le_of_ble_eq_true rfl) (Nat.le_of_ble_eq_true rfl) ?_
                  have hPc := hP.sub (ws' := [(xa, .inr (11, [.ref x0, .int (nI x1), .ref x2, .int (nI x3), .ref x4, .ref x5, .ref x6, .int x7, .ref x8, .int x9, .int x10]))]) [0] rfl
                  have hDc := hD.sub (ws' := [(xa, .inr (11, [.ref x0, .int (nI x1), .ref x2, .int (nI x3), .ref x4, .ref x5, .ref x6, .int x7, .ref x8, .int x9, .int x10]))]) [0] (by decide) rfl
                  have hKc := hK.sub (tys' := []) [] rfl
                  have hFc := va_free (wc := [(xa, .inr (11, [.ref x0, .int (nI x1), .ref x2, .int (nI x3), .ref x4, .ref x5, .ref x6, .int x7, .ref x8, .int x9, .int x10]))]) hD hS hA [0] rfl
                  refine va_calli (va_runV (As := [.int r_68]) (rest := []) ⟨hx, hb, hml, hown, hg⟩ (k_accept l D H_67.size xa x0 (nI x1) x2 (nI x3) x4 x5 x6 x7 x8 x9 x10 r_68) (cwV 1 hg (gV wd_356 wd_357 wd_358 wd_3 wd_359) rfl rfl rfl (by decide +kernel) ⟨(Nat.le_trans (Nat.le_of_ble_eq_true rfl) hRf), (Nat.le_trans (Nat.le_of_ble_eq_true rfl) hRl)⟩) ⟨Pr.blind, va_recv hK hP (ci := 11) (q0 := 0) rfl rfl, fun U hU hW => ⟨rfl, Pr.at hPc hKc hDc hN hU hW⟩⟩ rfl rfl hl.1 rfl (lv_room (Nat.le_of_ble_eq_true rfl)) dX11_join_163 ⟨(Nat.le_trans (Nat.le_of_ble_eq_true rfl) hRc), (Nat.le_trans (Nat.le_of_ble_eq_true rfl) hRs)⟩) hS (fun q _ h => hFc q h) hFc (fun r_83 M_84 t H_82 locs ht hvm hw hB hz1 hk1 hS => ?_)
                  have hp_85 := hw
                  obtain ⟨hP1, hK1, hD1⟩ := hB
                  rw [ht] at hP1
                  obtain ⟨hP, hD⟩ := va_joinQ (X := [(xa, .inr (11, [.ref x0, .int (nI x1), .ref x2, .int (nI x3), .ref x4, .ref x5, .ref x6, .int x7, .ref x8, .int x9, .int x10]))]) (cx := [(xa, .inr (11, [.ref x0, .int (nI x1), .ref x2, .int (nI x3), .ref x4, .ref x5, .ref x6, .int x7, .ref x8, .int x9, .int x10]))]) (wr := []) (w1 := [(xa, .inr (11, [.ref x0, .int (nI x1), .ref x2, .int (nI x3), .ref x4, .ref x5, .ref x6, .int x7, .ref x8, .int 0, .int (-1)]))]) (pl := va_pl L M_69m) hP hD [0] [] rfl rfl (by decide) (by decide) hk1 hFc hP1 hD1
                  have hP : va_P D vwCl ([(xa, .inr (11, [.ref x0, .int (nI x1), .ref x2, .int (nI x3), .ref x4, .ref x5, .ref x6, .int x7, .ref x8, .int 0, .int (-1)]))] ++ va_pl L M_69m) H_82 := hP
                  have hD : va_D A ([(xa, .inr (11, [.ref x0, .int (nI x1), .ref x2, .int (nI x3), .ref x4, .ref x5, .ref x6, .int x7, .ref x8, .int 0, .int (-1)]))] ++ va_pl L M_69m) := hD
                  have hq := Eq.symm hp_85
                  subst hq
                  rw [hQ]
                  exact W.iret (v := r_68) hx hb hr (fun t ht hW9 => ⟨⟨r_68, (K, L, M_69m), rfl, ⟨hX0, hW, hF, hT2, trivial⟩, ⟨0, (-1), by rw [ht]; exact hP, hD⟩⟩, hS.F ht⟩) hS.2.2 dX11_join_166
                · have hz := rfl (a := 0)
                  have n_86 : ¬ (v43_9 < 24) := fun q => c_65 ((iLT (a := v43_9) (b := 24) (by omega) (by omega)).mpr q)
                  refine lv_aload_n hx hb dX11_join_143 rfl (lv_at hl 2 rfl) ?_
                  refine lv_bipush (v := 9) hx hb dX11_join_144 (by decide) ?_
                  have hPc := hP.sub (ws' := [(xa, .inr (11, [.ref x0, .int (nI x1), .ref x2, .int (nI x3), .ref x4, .ref x5, .ref x6, .int x7, .ref x8, .int x9, .int x10]))]) [0] rfl
                  have hDc := hD.sub (ws' := [(xa, .inr (11, [.ref x0, .int (nI x1), .ref x2, .int (nI x3), .ref x4, .ref x5, .ref x6, .int x7, .ref x8, .int x9, .int x10]))]) [0] (by decide) rfl
                  have hKc := hK.sub (tys' := []) [] rfl
                  have hFc := va_free (wc := [(xa, .inr (11, [.ref x0, .int (nI x1), .ref x2, .int (nI x3), .ref x4, .ref x5, .ref x6, .int x7, .ref x8, .int x9, .int x10]))]) hD hS hA [0] rfl
                  refine va_calli (va_runV (As := [.int 9]) (rest := []) ⟨hx, hb, hml, hown, hg⟩ (k_refuse l D H_58.size xa x0 (nI x1) x2 (nI x3) x4 x5 x6 x7 x8 x9 x10 9) (cwV 1 hg (gV wd_344 wd_345 wd_346 wd_3 wd_347) rfl rfl rfl (by decide +kernel) ⟨(Nat.le_trans (Nat.le_of_ble_eq_true rfl) hRf), (Nat.le_trans (Nat.le_of_ble_eq_true rfl) hRl)⟩) ⟨Pr.blind, va_recv hK hP (ci := 11) (q0 := 0) rfl rfl, fun U hU hW => ⟨rfl, Pr.at hPc hKc hDc hN hU hW⟩⟩ rfl rfl hl.1 rfl (lv_room (Nat.le_of_ble_eq_true rfl)) dX11_join_146 ⟨(Nat.le_trans (Nat.le_of_ble_eq_true rfl) hRc), (Nat.le_trans (Nat.le_of_ble_eq_true rfl) hRs)⟩) hS (fun q _ h => hFc q h) hFc (fun r_88 M_89 t H_87 locs ht hvm hw hB hz1 hk1 hS => ?_)
                  have hp_90 := hw
                  obtain ⟨hP1, hK1, hD1⟩ := hB
                  rw [ht] at hP1
                  obtain ⟨hP, hD⟩ := va_joinQ (X := [(xa, .inr (11, [.ref x0, .int (nI x1), .ref x2, .int (nI x3), .ref x4, .ref x5, .ref x6, .int x7, .ref x8, .int x9, .int x10]))]) (cx := [(xa, .inr (11, [.ref x0, .int (nI x1), .ref x2, .int (nI x3), .ref x4, .ref x5, .ref x6, .int x7, .ref x8, .int x9, .int x10]))]) (wr := []) (w1 := [(xa, .inr (11, [.ref x0, .int (nI x1), .ref x2, .int (nI x3), .ref x4, .ref x5, .ref x6, .int x7, .ref x8, .int 9, .int (-1)]))]) (pl := va_pl L M_4) hP hD [0] [] rfl rfl (by decide) (by decide) hk1 hFc hP1 hD1
                  have hP : va_P D vwCl ([(xa, .inr (11, [.ref x0, .int (nI x1), .ref x2, .int (nI x3), .ref x4, .ref x5, .ref x6, .int x7, .ref x8, .int 9, .int (-1)]))] ++ va_pl L M_4) H_87 := hP
                  have hD : va_D A ([(xa, .inr (11, [.ref x0, .int (nI x1), .ref x2, .int (nI x3), .ref x4, .ref x5, .ref x6, .int x7, .ref x8, .int 9, .int (-1)]))] ++ va_pl L M_4) := hD
                  have hq := Eq.symm hp_90
                  subst hq
                  refine W.widen (k := 1) (n := 16) (Nat.le_of_ble_eq_true rfl) (Nat.le_of_ble_eq_true rfl) ?_
                  rw [hQ]
                  exact W.iret (v := (-1)) hx hb hr (fun t ht hW9 => ⟨⟨(-1), (K, L, M_4), rfl, ⟨hX0, hW, hF, hT2, trivial⟩, ⟨9, (-1), by rw [ht]; exact hP, hD⟩⟩, hS.F ht⟩) hS.2.2 dX11_join_149
              · have hb_91 := h63_3 b_64 rfl
                refine lv_ifnull hx hb dX11_join_92 ?_
                refine lv_aload_n hx hb dX11_join_95 rfl (lv_at hl 2 rfl) ?_
                refine va_get (D := D) (ci := 11) (v := .ref x5) (C := RX11) (T := TX11) (N := 11) hx hb hg inG11 hown hK hP 0 rfl rfl 5 (by decide) (hg _ wd_371) (fun _ h9 => h9) rfl dX11_join_96 ?_
                refine lv_aload_n hx hb dX11_join_99 rfl (lv_at hl 2 rfl) ?_
                refine va_get (D := D) (ci := 11) (v := .ref x0) (C := RX11) (T := TX11) (N := 11) hx hb hg inG11 hown hK hP 0 rfl rfl 0 (by decide) (hg _ wd_337) (fun _ h9 => h9) rfl dX11_join_100 ?_
                refine lv_aload_n hx hb dX11_join_103 rfl (lv_at hl 2 rfl) ?_
                refine va_get (D := D) (ci := 11) (v := .int (nI x1)) (C := RX11) (T := TX11) (N := 11) hx hb hg inG11 hown hK hP 0 rfl rfl 1 (by decide) (hg _ wd_336) (fun _ h9 => h9) rfl dX11_join_104 ?_
                refine lv_aload hx hb dX11_join_107 (lv_at hl 1 rfl) ?_
                refine pg_get (D := D) (ci := 2) (v := .int v43_0) (C := RX2) (T := TX2) (N := 20) hx hb hg inG2 hown hK hP hb_25.1 hM43 rfl 0 (by decide) (hg _ wd_566) (fun _ h9 => h9) rfl dX11_join_109 ?_
                refine lv_aload hx hb dX11_join_112 (lv_at hl 0 rfl) ?_
                refine pg_get (D := D) (ci := 4) (v := va_rf (some b_64)) (C := RX4) (T := TX4) (N := 4) hx hb hg inG4 hown hK hP hb_35.1 hM63 rfl 3 (by decide) (hg _ wd_561) (fun _ h9 => h9) rfl dX11_join_114 ?_
                obtain ⟨v92_0, v92_1, v92_2, v92_3, v92_4, v92_5, v92_6, v92_7, v92_8, v92_9, v92_10, v92_11, v92_12, v92_13, v92_14, v92_15, v92_16, v92_17, v92_18, v92_19, hM92, h92_3, h92_4, h92_5, h92_6, h92_7, h92_8, h92_9, h92_10, h92_11, h92_12, h92_13, h92_16, h92_17, h92_18, h92_19⟩ := hW.open_2 hb_91
                refine pg_get (D := D) (ci := 2) (v := .int v92_0) (C := RX2) (T := TX2) (N := 20) hx hb hg inG2 hown hK hP hb_91.1 hM92 rfl 0 (by decide) (hg _ wd_566) (fun _ h9 => h9) rfl dX11_join_117 ?_
                obtain ⟨v93_0, v93_1, v93_2, hM93, h93_0, h93_1⟩ := hW.open_5 i5
                have hPc : va_P D vwCl ([] ++ va_pl L M_4) H_58 := hP.part (cx := []) [] rfl
                have hDc : va_D A ([] ++ va_pl L M_4) := hD.part (cx := []) [] (by decide) rfl
                have hFc : ∀ q, va_A ([] ++ va_pl L M_4) H_58.size q → A q := pg_free hDc hS hA
                refine va_calli (va_runV (As := [.ref x0, .int (nI x1), .int v43_0, .int v92_0]) (rest := []) ⟨hx, hb, hml, hown, hg⟩ (s_X5_trace l D cy K L M_4 H_58.size x5 x0 (nI x1) v43_0 v92_0  hW i5 i0) (cwV 4 hg (gV wd_567 wd_568 wd_569 wd_309 wd_570) rfl rfl rfl (by decide +kernel) ⟨(Nat.le_trans (Nat.le_of_ble_eq_true rfl) hRf), (Nat.le_trans (Nat.le_of_ble_eq_true rfl) hRl)⟩) ⟨PG.blind, pg_recv hK hP i5.1 hM93 rfl, fun U hU hW => ⟨rfl, PG.at hPc hK hDc hN hU hW⟩⟩ rfl rfl hl.1 rfl (lv_room (Nat.le_of_ble_eq_true rfl)) dX11_join_120 ⟨(Nat.le_trans (Nat.le_of_ble_eq_true rfl) hRc), (Nat.le_trans (Nat.le_of_ble_eq_true rfl) hRs)⟩) hS (fun q _ h => hFc q h) hFc (fun r_95 M_96 t H_94 locs ht hvm hw hB hz1 hk1 hS => ?_)
                obtain ⟨hW, hF2, hp_97⟩ := hw
                obtain ⟨hP1, hD1⟩ := hB
                rw [ht] at hP1
                obtain ⟨hP, hD⟩ := va_joinP (X := [(xa, .inr (11, [.ref x0, .int (nI x1), .ref x2, .int (nI x3), .ref x4, .ref x5, .ref x6, .int x7, .ref x8, .int x9, .int x10]))]) (cx := []) (wr := [(xa, .inr (11, [.ref x0, .int (nI x1), .ref x2, .int (nI x3), .ref x4, .ref x5, .ref x6, .int x7, .ref x8, .int x9, .int x10]))]) (rx := []) (pl := va_pl L M_4) (pl1 := va_pl L M_96) hP hD [] [0] rfl rfl (by decide) (by decide) hk1 hFc hP1 hD1
                have hP : va_P D vwCl ([(xa, .inr (11, [.ref x0, .int (nI x1), .ref x2, .int (nI x3), .ref x4, .ref x5, .ref x6, .int x7, .ref x8, .int x9, .int x10]))] ++ va_pl L M_96) H_94 := hP
                have hD : va_D A ([(xa, .inr (11, [.ref x0, .int (nI x1), .ref x2, .int (nI x3), .ref x4, .ref x5, .ref x6, .int x7, .ref x8, .int x9, .int x10]))] ++ va_pl L M_96) := hD
                have hM_98 : M_96 b_10 = .inr (2, [.int v43_0, .int v43_1, .int v43_2, .ref v43_3, .int (nI v43_4), .int (nI v43_5), .ref v43_6, .ref v43_7, .ref v43_8, .int (nI v43_9), .ref v43_10, .int (nI v43_11), .ref v43_12, .ref v43_13, .long v43_14, .int v43_15, .ref v43_16, .ref v43_17, .ref v43_18, .ref v43_19]) := (hF2.at hb_25 (by decide)).trans hM43
                have hM_99 : M_96 v43_6 = .inl (cy 14, 6, .inl (f51)) := (hF2.at h43_6 (by decide)).trans hM51
                have hM_100 : M_96 b_30 = .inr (4, [.int v63_0, .int v63_1, .int v63_2, va_rf (some b_64)]) := (hF2.at hb_35 (by decide)).trans hM63
                have hM_101 : M_96 b_64 = .inr (2, [.int v92_0, .int v92_1, .int v92_2, .ref v92_3, .int (nI v92_4), .int (nI v92_5), .ref v92_6, .ref v92_7, .ref v92_8, .int (nI v92_9), .ref v92_10, .int (nI v92_11), .ref v92_12, .ref v92_13, .long v92_14, .int v92_15, .ref v92_16, .ref v92_17, .ref v92_18, .ref v92_19]) := (hF2.at hb_91 (by decide)).trans hM92
                have hF : fr K0 L0 [2, 5, 58, 59, 61, 62] M0 M_96 := hF.trX hX0 hF2 (by decide)
                have hT2 : fT 2 K0 L0 [9, 15] M0 M_96 := hT2.frrX hX0 hF2 (by decide)
                rcases hp_97 with rfl | rfl
                · have hz := rfl (a := 0)
                  refine lv_if_eq (tgt := 133) hx hb dX11_join_123 (by decide) (fun c_102 => absurd c_102 (by decide)) (fun _ => ?_)
                  refine lv_aload_n hx hb dX11_join_126 rfl (lv_at hl 2 rfl) ?_
                  refine lv_bipush (v := 8) hx hb dX11_join_127 (by decide) ?_
                  have hPc := hP.sub (ws' := [(xa, .inr (11, [.ref x0, .int (nI x1), .ref x2, .int (nI x3), .ref x4, .ref x5, .ref x6, .int x7, .ref x8, .int x9, .int x10]))]) [0] rfl
                  have hDc := hD.sub (ws' := [(xa, .inr (11, [.ref x0, .int (nI x1), .ref x2, .int (nI x3), .ref x4, .ref x5, .ref x6, .int x7, .ref x8, .int x9, .int x10]))]) [0] (by decide) rfl
                  have hKc := hK.sub (tys' := []) [] rfl
                  have hFc := va_free (wc := [(xa, .inr (11, [.ref x0, .int (nI x1), .ref x2, .int (nI x3), .ref x4, .ref x5, .ref x6, .int x7, .ref x8, .int x9, .int x10]))]) hD hS hA [0] rfl
                  refine va_calli (va_runV (As := [.int 8]) (rest := []) ⟨hx, hb, hml, hown, hg⟩ (k_refuse l D H_94.size xa x0 (nI x1) x2 (nI x3) x4 x5 x6 x7 x8 x9 x10 8) (cwV 1 hg (gV wd_344 wd_345 wd_346 wd_3 wd_347) rfl rfl rfl (by decide +kernel) ⟨(Nat.le_trans (Nat.le_of_ble_eq_true rfl) hRf), (Nat.le_trans (Nat.le_of_ble_eq_true rfl) hRl)⟩) ⟨Pr.blind, va_recv hK hP (ci := 11) (q0 := 0) rfl rfl, fun U hU hW => ⟨rfl, Pr.at hPc hKc hDc hN hU hW⟩⟩ rfl rfl hl.1 rfl (lv_room (Nat.le_of_ble_eq_true rfl)) dX11_join_129 ⟨(Nat.le_trans (Nat.le_of_ble_eq_true rfl) hRc), (Nat.le_trans (Nat.le_of_ble_eq_true rfl) hRs)⟩) hS (fun q _ h => hFc q h) hFc (fun r_104 M_105 t H_103 locs ht hvm hw hB hz1 hk1 hS => ?_)
                  have hp_106 := hw
                  obtain ⟨hP1, hK1, hD1⟩ := hB
                  rw [ht] at hP1
                  obtain ⟨hP, hD⟩ := va_joinQ (X := [(xa, .inr (11, [.ref x0, .int (nI x1), .ref x2, .int (nI x3), .ref x4, .ref x5, .ref x6, .int x7, .ref x8, .int x9, .int x10]))]) (cx := [(xa, .inr (11, [.ref x0, .int (nI x1), .ref x2, .int (nI x3), .ref x4, .ref x5, .ref x6, .int x7, .ref x8, .int x9, .int x10]))]) (wr := []) (w1 := [(xa, .inr (11, [.ref x0, .int (nI x1), .ref x2, .int (nI x3), .ref x4, .ref x5, .ref x6, .int x7, .ref x8, .int 8, .int (-1)]))]) (pl := va_pl L M_96) hP hD [0] [] rfl rfl (by decide) (by decide) hk1 hFc hP1 hD1
                  have hP : va_P D vwCl ([(xa, .inr (11, [.ref x0, .int (nI x1), .ref x2, .int (nI x3), .ref x4, .ref x5, .ref x6, .int x7, .ref x8, .int 8, .int (-1)]))] ++ va_pl L M_96) H_103 := hP
                  have hD : va_D A ([(xa, .inr (11, [.ref x0, .int (nI x1), .ref x2, .int (nI x3), .ref x4, .ref x5, .ref x6, .int x7, .ref x8, .int 8, .int (-1)]))] ++ va_pl L M_96) := hD
                  have hq := Eq.symm hp_106
                  subst hq
                  refine W.widen (k := 1) (n := 16) (Nat.le_of_ble_eq_true rfl) (Nat.le_of_ble_eq_true rfl) ?_
                  rw [hQ]
                  exact W.iret (v := (-1)) hx hb hr (fun t ht hW9 => ⟨⟨(-1), (K, L, M_96), rfl, ⟨hX0, hW, hF, hT2, trivial⟩, ⟨8, (-1), by rw [ht]; exact hP, hD⟩⟩, hS.F ht⟩) hS.2.2 dX11_join_132
                · have hz := rfl (a := 0)
                  refine lv_if_eq (tgt := 133) hx hb dX11_join_123 (by decide) (fun _ => ?_) (fun c_107 => absurd c_107 (by decide))
                  refine lv_aload hx hb dX11_join_133 (lv_at hl 1 rfl) ?_
                  refine pg_get (D := D) (ci := 2) (v := .int (nI v43_9)) (C := RX2) (T := TX2) (N := 20) hx hb hg inG2 hown hK hP hb_25.1 hM_98 rfl 9 (by decide) (hg _ wd_465) (fun _ h9 => h9) rfl dX11_join_135 ?_
                  refine lv_bipush (v := 24) hx hb dX11_join_138 (by decide) ?_
                  refine lv_icmp_lt (tgt := 150) hx hb dX11_join_140 (by decide) (fun c_108 => ?_) (fun c_108 => ?_)
                  · have hz := rfl (a := 0)
                    have n_109 : v43_9 < 24 := (iLT (a := v43_9) (b := 24) (by omega) (by omega)).mp c_108
                    refine lv_aload_n hx hb dX11_join_150 rfl (lv_at hl 2 rfl) ?_
                    refine lv_aload hx hb dX11_join_151 (lv_at hl 1 rfl) ?_
                    refine lv_aload hx hb dX11_join_153 (lv_at hl 0 rfl) ?_
                    refine lv_iload_n hx hb dX11_join_155 rfl (lv_at hl 4 rfl) ?_
                    refine lv_iload hx hb dX11_join_156 (lv_at hl 6 rfl) ?_
                    refine lv_iload hx hb dX11_join_158 (lv_at hl 7 rfl) ?_
                    have hPc : va_P D vwCl ([] ++ va_pl L M_96) H_94 := hP.part (cx := []) [] rfl
                    have hDc : va_D A ([] ++ va_pl L M_96) := hD.part (cx := []) [] (by decide) rfl
                    have hFc : ∀ q, va_A ([] ++ va_pl L M_96) H_94.size q → A q := pg_free hDc hS hA
                    refine va_calli (va_runV (As := [.ref b_30, .int k2, .int k4, .int 0]) (rest := [.ref xa]) ⟨hx, hb, hml, hown, hg⟩ (s_addTenure_0 l D cy K L M_96 H_94.size b_10 b_30 k2 k4  hW hb_25 hb_35) (cwV 4 hg (gV wd_562 wd_563 wd_564 wd_57 wd_565) rfl rfl rfl (by decide +kernel) ⟨(Nat.le_trans (Nat.le_of_ble_eq_true rfl) hRf), (Nat.le_trans (Nat.le_of_ble_eq_true rfl) hRl)⟩) ⟨PG.blind, pg_recv hK hP hb_25.1 hM_98 rfl, fun U hU hW => ⟨rfl, PG.at hPc hK hDc hN hU hW⟩⟩ rfl rfl hl.1 rfl (lv_room (Nat.le_of_ble_eq_true rfl)) dX11_join_160 ⟨(Nat.le_trans (Nat.le_of_ble_eq_true rfl) hRc), (Nat.le_trans (Nat.le_of_ble_eq_true rfl) hRs)⟩) hS (fun q _ h => hFc q h) hFc (fun r_111 M_112 t H_110 locs ht hvm hw hB hz1 hk1 hS => ?_)
                    obtain ⟨K9, L9, M_112m⟩ := M_112
                    dsimp only at hw hB
                    obtain ⟨hx9, hW, hF2, gT2, hp_113⟩ := hw
                    obtain ⟨hP1, hD1⟩ := hB
                    rw [ht] at hP1
                    obtain ⟨hP, hD⟩ := va_joinP (X := [(xa, .inr (11, [.ref x0, .int (nI x1), .ref x2, .int (nI x3), .ref x4, .ref x5, .ref x6, .int x7, .ref x8, .int x9, .int x10]))]) (cx := []) (wr := [(xa, .inr (11, [.ref x0, .int (nI x1), .ref x2, .int (nI x3), .ref x4, .ref x5, .ref x6, .int x7, .ref x8, .int x9, .int x10]))]) (rx := []) (pl := va_pl L M_96) (pl1 := va_pl L9 M_112m) hP hD [] [0] rfl rfl (by decide) (by decide) hk1 hFc hP1 hD1
                    have hP : va_P D vwCl ([(xa, .inr (11, [.ref x0, .int (nI x1), .ref x2, .int (nI x3), .ref x4, .ref x5, .ref x6, .int x7, .ref x8, .int x9, .int x10]))] ++ va_pl L9 M_112m) H_110 := hP
                    have hD : va_D A ([(xa, .inr (11, [.ref x0, .int (nI x1), .ref x2, .int (nI x3), .ref x4, .ref x5, .ref x6, .int x7, .ref x8, .int x9, .int x10]))] ++ va_pl L9 M_112m) := hD
                    have hM_114 : M_112m v43_6 = .inl (cy 14, 6, .inl (f51)) := (hF2.at h43_6 (by decide)).trans hM_99
                    have hM_115 : M_112m b_30 = .inr (4, [.int v63_0, .int v63_1, .int v63_2, va_rf (some b_64)]) := (hF2.at hb_35 (by decide)).trans hM_100
                    have hF : fr K0 L0 [2, 5, 58, 59, 61, 62] M0 M_112m := hF.trX hX0 hF2 (by decide)
                    have hT2 : fT 2 K0 L0 [9, 15] M0 M_112m := hT2.trX hX0 gT2 (by decide)
                    have hX0 := hX0.tr hx9
                    have i_116 := i0.ext hx9
                    have i_117 := i2.ext hx9
                    have i_118 := i4.ext hx9
                    have i_119 := i5.ext hx9
                    have i_120 := i6.ext hx9
                    have i_121 := i8.ext hx9
                    have i_122 := hb_25.ext hx9
                    have i_123 := hb_35.ext hx9
                    have i_124 := h43_6.ext hx9
                    have i_125 := hb_91.ext hx9
                    obtain ⟨K, L, hK9, hL9⟩ : ∃ (K : Kp) (L : List Nat), K = K9 ∧ L = L9 := ⟨_, _, rfl, rfl⟩
                    subst hK9
                    subst hL9
                    refine W.widen (k := 1) (n := 16) (Nat.le_of_ble_eq_true rfl) (Nat.le_of_ble_eq_true rfl) ?_
                    have hPc := hP.sub (ws' := [(xa, .inr (11, [.ref x0, .int (nI x1), .ref x2, .int (nI x3), .ref x4, .ref x5, .ref x6, .int x7, .ref x8, .int x9, .int x10]))]) [0] rfl
                    have hDc := hD.sub (ws' := [(xa, .inr (11, [.ref x0, .int (nI x1), .ref x2, .int (nI x3), .ref x4, .ref x5, .ref x6, .int x7, .ref x8, .int x9, .int x10]))]) [0] (by decide) rfl
                    have hKc := hK.sub (tys' := []) [] rfl
                    have hFc := va_free (wc := [(xa, .inr (11, [.ref x0, .int (nI x1), .ref x2, .int (nI x3), .ref x4, .ref x5, .ref x6, .int x7, .ref x8, .int x9, .int x10]))]) hD hS hA [0] rfl
                    refine va_calli (va_runV (As := [.int r_111]) (rest := []) ⟨hx, hb, hml, hown, hg⟩ (k_accept l D H_110.size xa x0 (nI x1) x2 (nI x3) x4 x5 x6 x7 x8 x9 x10 r_111) (cwV 1 hg (gV wd_356 wd_357 wd_358 wd_3 wd_359) rfl rfl rfl (by decide +kernel) ⟨(Nat.le_trans (Nat.le_of_ble_eq_true rfl) hRf), (Nat.le_trans (Nat.le_of_ble_eq_true rfl) hRl)⟩) ⟨Pr.blind, va_recv hK hP (ci := 11) (q0 := 0) rfl rfl, fun U hU hW => ⟨rfl, Pr.at hPc hKc hDc hN hU hW⟩⟩ rfl rfl hl.1 rfl (lv_room (Nat.le_of_ble_eq_true rfl)) dX11_join_163 ⟨(Nat.le_trans (Nat.le_of_ble_eq_true rfl) hRc), (Nat.le_trans (Nat.le_of_ble_eq_true rfl) hRs)⟩) hS (fun q _ h => hFc q h) hFc (fun r_127 M_128 t H_126 locs ht hvm hw hB hz1 hk1 hS => ?_)
                    have hp_129 := hw
                    obtain ⟨hP1, hK1, hD1⟩ := hB
                    rw [ht] at hP1
                    obtain ⟨hP, hD⟩ := va_joinQ (X := [(xa, .inr (11, [.ref x0, .int (nI x1), .ref x2, .int (nI x3), .ref x4, .ref x5, .ref x6, .int x7, .ref x8, .int x9, .int x10]))]) (cx := [(xa, .inr (11, [.ref x0, .int (nI x1), .ref x2, .int (nI x3), .ref x4, .ref x5, .ref x6, .int x7, .ref x8, .int x9, .int x10]))]) (wr := []) (w1 := [(xa, .inr (11, [.ref x0, .int (nI x1), .ref x2, .int (nI x3), .ref x4, .ref x5, .ref x6, .int x7, .ref x8, .int 0, .int (-1)]))]) (pl := va_pl L M_112m) hP hD [0] [] rfl rfl (by decide) (by decide) hk1 hFc hP1 hD1
                    have hP : va_P D vwCl ([(xa, .inr (11, [.ref x0, .int (nI x1), .ref x2, .int (nI x3), .ref x4, .ref x5, .ref x6, .int x7, .ref x8, .int 0, .int (-1)]))] ++ va_pl L M_112m) H_126 := hP
                    have hD : va_D A ([(xa, .inr (11, [.ref x0, .int (nI x1), .ref x2, .int (nI x3), .ref x4, .ref x5, .ref x6, .int x7, .ref x8, .int 0, .int (-1)]))] ++ va_pl L M_112m) := hD
                    have hq := Eq.symm hp_129
                    subst hq
                    rw [hQ]
                    exact W.iret (v := r_111) hx hb hr (fun t ht hW9 => ⟨⟨r_111, (K, L, M_112m), rfl, ⟨hX0, hW, hF, hT2, trivial⟩, ⟨0, (-1), by rw [ht]; exact hP, hD⟩⟩, hS.F ht⟩) hS.2.2 dX11_join_166
                  · have hz := rfl (a := 0)
                    have n_130 : ¬ (v43_9 < 24) := fun q => c_108 ((iLT (a := v43_9) (b := 24) (by omega) (by omega)).mpr q)
                    refine lv_aload_n hx hb dX11_join_143 rfl (lv_at hl 2 rfl) ?_
                    refine lv_bipush (v := 9) hx hb dX11_join_144 (by decide) ?_
                    have hPc := hP.sub (ws' := [(xa, .inr (11, [.ref x0, .int (nI x1), .ref x2, .int (nI x3), .ref x4, .ref x5, .ref x6, .int x7, .ref x8, .int x9, .int x10]))]) [0] rfl
                    have hDc := hD.sub (ws' := [(xa, .inr (11, [.ref x0, .int (nI x1), .ref x2, .int (nI x3), .ref x4, .ref x5, .ref x6, .int x7, .ref x8, .int x9, .int x10]))]) [0] (by decide) rfl
                    have hKc := hK.sub (tys' := []) [] rfl
                    have hFc := va_free (wc := [(xa, .inr (11, [.ref x0, .int (nI x1), .ref x2, .int (nI x3), .ref x4, .ref x5, .ref x6, .int x7, .ref x8, .int x9, .int x10]))]) hD hS hA [0] rfl
                    refine va_calli (va_runV (As := [.int 9]) (rest := []) ⟨hx, hb, hml, hown, hg⟩ (k_refuse l D H_94.size xa x0 (nI x1) x2 (nI x3) x4 x5 x6 x7 x8 x9 x10 9) (cwV 1 hg (gV wd_344 wd_345 wd_346 wd_3 wd_347) rfl rfl rfl (by decide +kernel) ⟨(Nat.le_trans (Nat.le_of_ble_eq_true rfl) hRf), (Nat.le_trans (Nat.le_of_ble_eq_true rfl) hRl)⟩) ⟨Pr.blind, va_recv hK hP (ci := 11) (q0 := 0) rfl rfl, fun U hU hW => ⟨rfl, Pr.at hPc hKc hDc hN hU hW⟩⟩ rfl rfl hl.1 rfl (lv_room (Nat.le_of_ble_eq_true rfl)) dX11_join_146 ⟨(Nat.le_trans (Nat.le_of_ble_eq_true rfl) hRc), (Nat.le_trans (Nat.le_of_ble_eq_true rfl) hRs)⟩) hS (fun q _ h => hFc q h) hFc (fun r_132 M_133 t H_131 locs ht hvm hw hB hz1 hk1 hS => ?_)
                    have hp_134 := hw
                    obtain ⟨hP1, hK1, hD1⟩ := hB
                    rw [ht] at hP1
                    obtain ⟨hP, hD⟩ := va_joinQ (X := [(xa, .inr (11, [.ref x0, .int (nI x1), .ref x2, .int (nI x3), .ref x4, .ref x5, .ref x6, .int x7, .ref x8, .int x9, .int x10]))]) (cx := [(xa, .inr (11, [.ref x0, .int (nI x1), .ref x2, .int (nI x3), .ref x4, .ref x5, .ref x6, .int x7, .ref x8, .int x9, .int x10]))]) (wr := []) (w1 := [(xa, .inr (11, [.ref x0, .int (nI x1), .ref x2, .int (nI x3), .ref x4, .ref x5, .ref x6, .int x7, .ref x8, .int 9, .int (-1)]))]) (pl := va_pl L M_96) hP hD [0] [] rfl rfl (by decide) (by decide) hk1 hFc hP1 hD1
                    have hP : va_P D vwCl ([(xa, .inr (11, [.ref x0, .int (nI x1), .ref x2, .int (nI x3), .ref x4, .ref x5, .ref x6, .int x7, .ref x8, .int 9, .int (-1)]))] ++ va_pl L M_96) H_131 := hP
                    have hD : va_D A ([(xa, .inr (11, [.ref x0, .int (nI x1), .ref x2, .int (nI x3), .ref x4, .ref x5, .ref x6, .int x7, .ref x8, .int 9, .int (-1)]))] ++ va_pl L M_96) := hD
                    have hq := Eq.symm hp_134
                    subst hq
                    refine W.widen (k := 1) (n := 16) (Nat.le_of_ble_eq_true rfl) (Nat.le_of_ble_eq_true rfl) ?_
                    rw [hQ]
                    exact W.iret (v := (-1)) hx hb hr (fun t ht hW9 => ⟨⟨(-1), (K, L, M_96), rfl, ⟨hX0, hW, hF, hT2, trivial⟩, ⟨9, (-1), by rw [ht]; exact hP, hD⟩⟩, hS.F ht⟩) hS.2.2 dX11_join_149
            · have hz := rfl (a := 0)
              refine lv_if_ne (tgt := 87) hx hb dX11_join_78 (by decide) (fun c_135 => absurd c_135 (by decide)) (fun _ => ?_)
              refine lv_aload_n hx hb dX11_join_81 rfl (lv_at hl 2 rfl) ?_
              refine lv_iconst (v := 4) hx hb dX11_join_82 (by decide) ?_
              have hPc := hP.sub (ws' := [(xa, .inr (11, [.ref x0, .int (nI x1), .ref x2, .int (nI x3), .ref x4, .ref x5, .ref x6, .int x7, .ref x8, .int x9, .int x10]))]) [0] rfl
              have hDc := hD.sub (ws' := [(xa, .inr (11, [.ref x0, .int (nI x1), .ref x2, .int (nI x3), .ref x4, .ref x5, .ref x6, .int x7, .ref x8, .int x9, .int x10]))]) [0] (by decide) rfl
              have hKc := hK.sub (tys' := []) [] rfl
              have hFc := va_free (wc := [(xa, .inr (11, [.ref x0, .int (nI x1), .ref x2, .int (nI x3), .ref x4, .ref x5, .ref x6, .int x7, .ref x8, .int x9, .int x10]))]) hD hS hA [0] rfl
              refine va_calli (va_runV (As := [.int 4]) (rest := []) ⟨hx, hb, hml, hown, hg⟩ (k_refuse l D H_58.size xa x0 (nI x1) x2 (nI x3) x4 x5 x6 x7 x8 x9 x10 4) (cwV 1 hg (gV wd_344 wd_345 wd_346 wd_3 wd_347) rfl rfl rfl (by decide +kernel) ⟨(Nat.le_trans (Nat.le_of_ble_eq_true rfl) hRf), (Nat.le_trans (Nat.le_of_ble_eq_true rfl) hRl)⟩) ⟨Pr.blind, va_recv hK hP (ci := 11) (q0 := 0) rfl rfl, fun U hU hW => ⟨rfl, Pr.at hPc hKc hDc hN hU hW⟩⟩ rfl rfl hl.1 rfl (lv_room (Nat.le_of_ble_eq_true rfl)) dX11_join_83 ⟨(Nat.le_trans (Nat.le_of_ble_eq_true rfl) hRc), (Nat.le_trans (Nat.le_of_ble_eq_true rfl) hRs)⟩) hS (fun q _ h => hFc q h) hFc (fun r_137 M_138 t H_136 locs ht hvm hw hB hz1 hk1 hS => ?_)
              have hp_139 := hw
              obtain ⟨hP1, hK1, hD1⟩ := hB
              rw [ht] at hP1
              obtain ⟨hP, hD⟩ := va_joinQ (X := [(xa, .inr (11, [.ref x0, .int (nI x1), .ref x2, .int (nI x3), .ref x4, .ref x5, .ref x6, .int x7, .ref x8, .int x9, .int x10]))]) (cx := [(xa, .inr (11, [.ref x0, .int (nI x1), .ref x2, .int (nI x3), .ref x4, .ref x5, .ref x6, .int x7, .ref x8, .int x9, .int x10]))]) (wr := []) (w1 := [(xa, .inr (11, [.ref x0, .int (nI x1), .ref x2, .int (nI x3), .ref x4, .ref x5, .ref x6, .int x7, .ref x8, .int 4, .int (-1)]))]) (pl := va_pl L M_4) hP hD [0] [] rfl rfl (by decide) (by decide) hk1 hFc hP1 hD1
              have hP : va_P D vwCl ([(xa, .inr (11, [.ref x0, .int (nI x1), .ref x2, .int (nI x3), .ref x4, .ref x5, .ref x6, .int x7, .ref x8, .int 4, .int (-1)]))] ++ va_pl L M_4) H_136 := hP
              have hD : va_D A ([(xa, .inr (11, [.ref x0, .int (nI x1), .ref x2, .int (nI x3), .ref x4, .ref x5, .ref x6, .int x7, .ref x8, .int 4, .int (-1)]))] ++ va_pl L M_4) := hD
              have hq := Eq.symm hp_139
              subst hq
              refine W.widen (k := 1) (n := 16) (Nat.le_of_ble_eq_true rfl) (Nat.le_of_ble_eq_true rfl) ?_
              rw [hQ]
              exact W.iret (v := (-1)) hx hb hr (fun t ht hW9 => ⟨⟨(-1), (K, L, M_4), rfl, ⟨hX0, hW, hF, hT2, trivial⟩, ⟨4, (-1), by rw [ht]; exact hP, hD⟩⟩, hS.F ht⟩) hS.2.2 dX11_join_86
        · have hz := rfl (a := 0)
          refine lv_if_ne (tgt := 60) hx hb dX11_join_51 (by decide) (fun c_140 => absurd c_140 (by decide)) (fun _ => ?_)
          refine lv_aload_n hx hb dX11_join_54 rfl (lv_at hl 2 rfl) ?_
          refine lv_iconst (v := 3) hx hb dX11_join_55 (by decide) ?_
          have hPc := hP.sub (ws' := [(xa, .inr (11, [.ref x0, .int (nI x1), .ref x2, .int (nI x3), .ref x4, .ref x5, .ref x6, .int x7, .ref x8, .int x9, .int x10]))]) [0] rfl
          have hDc := hD.sub (ws' := [(xa, .inr (11, [.ref x0, .int (nI x1), .ref x2, .int (nI x3), .ref x4, .ref x5, .ref x6, .int x7, .ref x8, .int x9, .int x10]))]) [0] (by decide) rfl
          have hKc := hK.sub (tys' := []) [] rfl
          have hFc := va_free (wc := [(xa, .inr (11, [.ref x0, .int (nI x1), .ref x2, .int (nI x3), .ref x4, .ref x5, .ref x6, .int x7, .ref x8, .int x9, .int x10]))]) hD hS hA [0] rfl
          refine va_calli (va_runV (As := [.int 3]) (rest := []) ⟨hx, hb, hml, hown, hg⟩ (k_refuse l D H_44.size xa x0 (nI x1) x2 (nI x3) x4 x5 x6 x7 x8 x9 x10 3) (cwV 1 hg (gV wd_344 wd_345 wd_346 wd_3 wd_347) rfl rfl rfl (by decide +kernel) ⟨(Nat.le_trans (Nat.le_of_ble_eq_true rfl) hRf), (Nat.le_trans (Nat.le_of_ble_eq_true rfl) hRl)⟩) ⟨Pr.blind, va_recv hK hP (ci := 11) (q0 := 0) rfl rfl, fun U hU hW => ⟨rfl, Pr.at hPc hKc hDc hN hU hW⟩⟩ rfl rfl hl.1 rfl (lv_room (Nat.le_of_ble_eq_true rfl)) dX11_join_56 ⟨(Nat.le_trans (Nat.le_of_ble_eq_true rfl) hRc), (Nat.le_trans (Nat.le_of_ble_eq_true rfl) hRs)⟩) hS (fun q _ h => hFc q h) hFc (fun r_142 M_143 t H_141 locs ht hvm hw hB hz1 hk1 hS => ?_)
          have hp_144 := hw
          obtain ⟨hP1, hK1, hD1⟩ := hB
          rw [ht] at hP1
          obtain ⟨hP, hD⟩ := va_joinQ (X := [(xa, .inr (11, [.ref x0, .int (nI x1), .ref x2, .int (nI x3), .ref x4, .ref x5, .ref x6, .int x7, .ref x8, .int x9, .int x10]))]) (cx := [(xa, .inr (11, [.ref x0, .int (nI x1), .ref x2, .int (nI x3), .ref x4, .ref x5, .ref x6, .int x7, .ref x8, .int x9, .int x10]))]) (wr := []) (w1 := [(xa, .inr (11, [.ref x0, .int (nI x1), .ref x2, .int (nI x3), .ref x4, .ref x5, .ref x6, .int x7, .ref x8, .int 3, .int (-1)]))]) (pl := va_pl L M_4) hP hD [0] [] rfl rfl (by decide) (by decide) hk1 hFc hP1 hD1
          have hP : va_P D vwCl ([(xa, .inr (11, [.ref x0, .int (nI x1), .ref x2, .int (nI x3), .ref x4, .ref x5, .ref x6, .int x7, .ref x8, .int 3, .int (-1)]))] ++ va_pl L M_4) H_141 := hP
          have hD : va_D A ([(xa, .inr (11, [.ref x0, .int (nI x1), .ref x2, .int (nI x3), .ref x4, .ref x5, .ref x6, .int x7, .ref x8, .int 3, .int (-1)]))] ++ va_pl L M_4) := hD
          have hq := Eq.symm hp_144
          subst hq
          refine W.widen (k := 1) (n := 16) (Nat.le_of_ble_eq_true rfl) (Nat.le_of_ble_eq_true rfl) ?_
          rw [hQ]
          exact W.iret (v := (-1)) hx hb hr (fun t ht hW9 => ⟨⟨(-1), (K, L, M_4), rfl, ⟨hX0, hW, hF, hT2, trivial⟩, ⟨3, (-1), by rw [ht]; exact hP, hD⟩⟩, hS.F ht⟩) hS.2.2 dX11_join_59
      · have hz := rfl (a := 0)
        refine lv_if_ne (tgt := 44) hx hb dX11_join_35 (by decide) (fun c_145 => absurd c_145 (by decide)) (fun _ => ?_)
        refine lv_aload_n hx hb dX11_join_38 rfl (lv_at hl 2 rfl) ?_
        refine lv_iconst (v := 1) hx hb dX11_join_39 (by decide) ?_
        have hPc := hP.sub (ws' := [(xa, .inr (11, [.ref x0, .int (nI x1), .ref x2, .int (nI x3), .ref x4, .ref x5, .ref x6, .int x7, .ref x8, .int x9, .int x10]))]) [0] rfl
        have hDc := hD.sub (ws' := [(xa, .inr (11, [.ref x0, .int (nI x1), .ref x2, .int (nI x3), .ref x4, .ref x5, .ref x6, .int x7, .ref x8, .int x9, .int x10]))]) [0] (by decide) rfl
        have hKc := hK.sub (tys' := []) [] rfl
        have hFc := va_free (wc := [(xa, .inr (11, [.ref x0, .int (nI x1), .ref x2, .int (nI x3), .ref x4, .ref x5, .ref x6, .int x7, .ref x8, .int x9, .int x10]))]) hD hS hA [0] rfl
        refine va_calli (va_runV (As := [.int 1]) (rest := []) ⟨hx, hb, hml, hown, hg⟩ (k_refuse l D H_36.size xa x0 (nI x1) x2 (nI x3) x4 x5 x6 x7 x8 x9 x10 1) (cwV 1 hg (gV wd_344 wd_345 wd_346 wd_3 wd_347) rfl rfl rfl (by decide +kernel) ⟨(Nat.le_trans (Nat.le_of_ble_eq_true rfl) hRf), (Nat.le_trans (Nat.le_of_ble_eq_true rfl) hRl)⟩) ⟨Pr.blind, va_recv hK hP (ci := 11) (q0 := 0) rfl rfl, fun U hU hW => ⟨rfl, Pr.at hPc hKc hDc hN hU hW⟩⟩ rfl rfl hl.1 rfl (lv_room (Nat.le_of_ble_eq_true rfl)) dX11_join_40 ⟨(Nat.le_trans (Nat.le_of_ble_eq_true rfl) hRc), (Nat.le_trans (Nat.le_of_ble_eq_true rfl) hRs)⟩) hS (fun q _ h => hFc q h) hFc (fun r_147 M_148 t H_146 locs ht hvm hw hB hz1 hk1 hS => ?_)
        have hp_149 := hw
        obtain ⟨hP1, hK1, hD1⟩ := hB
        rw [ht] at hP1
        obtain ⟨hP, hD⟩ := va_joinQ (X := [(xa, .inr (11, [.ref x0, .int (nI x1), .ref x2, .int (nI x3), .ref x4, .ref x5, .ref x6, .int x7, .ref x8, .int x9, .int x10]))]) (cx := [(xa, .inr (11, [.ref x0, .int (nI x1), .ref x2, .int (nI x3), .ref x4, .ref x5, .ref x6, .int x7, .ref x8, .int x9, .int x10]))]) (wr := []) (w1 := [(xa, .inr (11, [.ref x0, .int (nI x1), .ref x2, .int (nI x3), .ref x4, .ref x5, .ref x6, .int x7, .ref x8, .int 1, .int (-1)]))]) (pl := va_pl L M_4) hP hD [0] [] rfl rfl (by decide) (by decide) hk1 hFc hP1 hD1
        have hP : va_P D vwCl ([(xa, .inr (11, [.ref x0, .int (nI x1), .ref x2, .int (nI x3), .ref x4, .ref x5, .ref x6, .int x7, .ref x8, .int 1, .int (-1)]))] ++ va_pl L M_4) H_146 := hP
        have hD : va_D A ([(xa, .inr (11, [.ref x0, .int (nI x1), .ref x2, .int (nI x3), .ref x4, .ref x5, .ref x6, .int x7, .ref x8, .int 1, .int (-1)]))] ++ va_pl L M_4) := hD
        have hq := Eq.symm hp_149
        subst hq
        refine W.widen (k := 1) (n := 16) (Nat.le_of_ble_eq_true rfl) (Nat.le_of_ble_eq_true rfl) ?_
        rw [hQ]
        exact W.iret (v := (-1)) hx hb hr (fun t ht hW9 => ⟨⟨(-1), (K, L, M_4), rfl, ⟨hX0, hW, hF, hT2, trivial⟩, ⟨1, (-1), by rw [ht]; exact hP, hD⟩⟩, hS.F ht⟩) hS.2.2 dX11_join_43
set_option maxHeartbeats 4000000 in
set_option maxRecDepth 100000 in
theorem s_join_1 (l : Launch) (D : va_G) (cy : Nat → ClassId) (K0 : Kp) (L0 : List Nat) (M0 : Hp) (sz : Nat) (xa : Nat) (x0 : Nat) (x1 : Nat) (x2 : Nat) (x3 : Nat) (x4 : Nat) (x5 : Nat) (x6 : Nat) (x7 : Int32) (x8 : Nat) (x9 : Int32) (x10 : Int32) (k1 : Int32) (k2 : Int32) (k3 : Int32) (k4 : Int32) (hW : WOK cy K0 L0 M0) (i0 : isk K0 L0 x0 17 8) (b1 : x1 ≤ 8) (i2 : isk K0 L0 x2 19 40) (b3 : x3 ≤ 40) (i4 : isk K0 L0 x4 7 0) (i5 : isk K0 L0 x5 5 0) (i6 : isk K0 L0 x6 60 24) (i8 : isk K0 L0 x8 73 25) : Met l yX11_join (wsM yX11_join cX11_join 8 (some .int)) ({ frames := 4, cells := 1, slots := 16, locals := 97 }) (va_Pc [.ref xa, .int k1, .int k2, .int k3, .int k4, .int 1] (PG D cy [(xa, .inr (11, [.ref x0, .int (nI x1), .ref x2, .int (nI x3), .ref x4, .ref x5, .ref x6, .int x7, .ref x8, .int x9, .int x10]))] L0 M0 sz)) (va_Qi (fun (r : Int32) (u : Kp × List Nat × Hp) => ext K0 L0 u.1 u.2.1 ∧ WOK cy u.1 u.2.1 u.2.2 ∧ fr K0 L0 [2, 5, 58, 59, 61, 62] M0 u.2.2 ∧ fT 2 K0 L0 [9, 15] M0 u.2.2 ∧ (True)) (fun u t => ∃ (w9 : Int32) (w10 : Int32), PQ D [(xa, .inr (11, [.ref x0, .int (nI x1), .ref x2, .int (nI x3), .ref x4, .ref x5, .ref x6, .int x7, .ref x8, .int w9, .int w10]))] u.2.1 u.2.2 (va_A ([(xa, .inr (11, [.ref x0, .int (nI x1), .ref x2, .int (nI x3), .ref x4, .ref x5, .ref x6, .int x7, .ref x8, .int x9, .int x10]))] ++ va_pl L0 M0) sz) t) (va_A ([(xa, .inr (11, [.ref x0, .int (nI x1), .ref x2, .int (nI x3), .ref x4, .ref x5, .ref x6, .int x7, .ref x8, .int x9, .int x10]))] ++ va_pl L0 M0) sz)) 1 16 (va_A ([(xa, .inr (11, [.ref x0, .int (nI x1), .ref x2, .int (nI x3), .ref x4, .ref x5, .ref x6, .int x7, .ref x8, .int x9, .int x10]))] ++ va_pl L0 M0) sz) := by
  refine Met.ofW (cc := cX11_join) (maxL := 8) (ret := (some .int)) (by decide) rfl ?_
  intro p e s m args below meth c s₁ B hml hv
  obtain ⟨rfl, hsz, hP, hK, hD0, hN⟩ := hv
  have hx := B.exec
  have hb := B.bytes
  have hr := B.returns
  have hts := atoms_spec (ws := (wsM yX11_join cX11_join 8 (some .int))) B.pre
  have hg : ∀ w ∈ lw_good, w.before _ s = true := fun w h => hts w (List.mem_cons_of_mem _ h)
  have hown : s.vm.findClass RX11 = some m.cls := findClass_of_methodNamed B.named
  have hlocks := B.notSynchronized
  subst hsz
  have hD := hD0.self (sz := s.heap.size)
  generalize hAe : va_A ([(xa, .inr (11, [.ref x0, .int (nI x1), .ref x2, .int (nI x3), .ref x4, .ref x5, .ref x6, .int x7, .ref x8, .int x9, .int x10]))] ++ va_pl L0 M0) s.heap.size = A at hD ⊢
  have hA : ∀ q : Nat, s.heap.size ≤ q → A q := fun q h => by rw [← hAe]; exact Or.inr h
  have hS : va_S A s.heap s.heap [] := va_S.rf
  have hl := lv_entry ([.ref xa, .int k1, .int k2, .int k3, .int k4, .int 1]) (n := 8) (Nat.le_of_ble_eq_true rfl)
  rw [lg_entry_eq]
  generalize (lg_sl ([.ref xa, .int k1, .int k2, .int k3, .int k4, .int 1]) ++ List.replicate (8 - (lg_sl ([.ref xa, .int k1, .int k2, .int k3, .int k4, .int 1])).length) Slot.unset).toArray = ls at hl ⊢
  refine W.nameQ (fun Q hQ => ?_)
  refine W.nameR (fun R hR => ?_)
  have hRf : 4 ≤ R.frames := by rw [hR]; exact Nat.le_of_ble_eq_true rfl
  have hRl : 97 ≤ R.locals := by rw [hR]; exact Nat.le_of_ble_eq_true rfl
  have hRc : 1 ≤ R.cells := by rw [hR]; exact Nat.le_of_ble_eq_true rfl
  have hRs : 16 ≤ R.slots := by rw [hR]; exact Nat.le_of_ble_eq_true rfl
  obtain ⟨K, L, M, hX0, hF, hT2, hW, hP, hD, i0, i2, i4, i5, i6, i8⟩ : ∃ (K : Kp) (L : List Nat) (M : Hp), ext K0 L0 K L ∧ fr K0 L0 [2, 5, 58, 59, 61, 62] M0 M ∧ fT 2 K0 L0 [9, 15] M0 M ∧ WOK cy K L M ∧ va_P D vwCl ([(xa, .inr (11, [.ref x0, .int (nI x1), .ref x2, .int (nI x3), .ref x4, .ref x5, .ref x6, .int x7, .ref x8, .int x9, .int x10]))] ++ va_pl L M) s.heap ∧ va_D A ([(xa, .inr (11, [.ref x0, .int (nI x1), .ref x2, .int (nI x3), .ref x4, .ref x5, .ref x6, .int x7, .ref x8, .int x9, .int x10]))] ++ va_pl L M) ∧ isk K L x0 17 8 ∧ isk K L x2 19 40 ∧ isk K L x4 7 0 ∧ isk K L x5 5 0 ∧ isk K L x6 60 24 ∧ isk K L x8 73 25 := ⟨K0, L0, M0, ext.rf, fr.rf, fT.rf, hW, hP, hD, i0, i2, i4, i5, i6, i8⟩
  have hl : lv_has ls 8 [(0, .ref xa), (1, .int k1), (2, .int k2), (3, .int k3), (4, .int k4), (5, .int 1)] := hl
  refine lv_aload_n hx hb dX11_join_0 rfl (lv_at hl 0 rfl) ?_
  refine va_get (D := D) (ci := 11) (v := .ref x5) (C := RX11) (T := TX11) (N := 11) hx hb hg inG11 hown hK hP 0 rfl rfl 5 (by decide) (hg _ wd_371) (fun _ h9 => h9) rfl dX11_join_1 ?_
  obtain ⟨v1_0, v1_1, v1_2, hM1, h1_0, h1_1⟩ := hW.open_5 i5
  have hPc : va_P D vwCl ([] ++ va_pl L M) s.heap := hP.part (cx := []) [] rfl
  have hDc : va_D A ([] ++ va_pl L M) := hD.part (cx := []) [] (by decide) rfl
  have hFc : ∀ q, va_A ([] ++ va_pl L M) s.heap.size q → A q := pg_free hDc hS hA
  refine va_callv (va_runV (As := []) (rest := []) ⟨hx, hb, hml, hown, hg⟩ (s_X5_forget l D cy K L M s.heap.size x5  hW i5) (cwV 0 hg (gV wd_549 wd_550 wd_551 wd_309 wd_552) rfl rfl rfl (by decide +kernel) ⟨(Nat.le_trans (Nat.le_of_ble_eq_true rfl) hRf), (Nat.le_trans (Nat.le_of_ble_eq_true rfl) hRl)⟩) ⟨PG.blind, pg_recv hK hP i5.1 hM1 rfl, fun U hU hW => ⟨rfl, PG.at hPc hK hDc hN hU hW⟩⟩ rfl rfl hl.1 rfl (lv_room (Nat.le_of_ble_eq_true rfl)) dX11_join_4 ⟨(Nat.le_trans (Nat.le_of_ble_eq_true rfl) hRc), (Nat.le_trans (Nat.le_of_ble_eq_true rfl) hRs)⟩) hS (fun q _ h => hFc q h) hFc (fun M_4 t H_2 locs ht hvm hw hB hz1 hk1 hS => ?_)
  obtain ⟨hW, hF2, hp_5⟩ := hw
  obtain ⟨hP1, hD1⟩ := hB
  rw [ht] at hP1
  obtain ⟨hP, hD⟩ := va_joinP (X := [(xa, .inr (11, [.ref x0, .int (nI x1), .ref x2, .int (nI x3), .ref x4, .ref x5, .ref x6, .int x7, .ref x8, .int x9, .int x10]))]) (cx := []) (wr := [(xa, .inr (11, [.ref x0, .int (nI x1), .ref x2, .int (nI x3), .ref x4, .ref x5, .ref x6, .int x7, .ref x8, .int x9, .int x10]))]) (rx := []) (pl := va_pl L M) (pl1 := va_pl L M_4) hP hD [] [0] rfl rfl (by decide) (by decide) hk1 hFc hP1 hD1
  have hP : va_P D vwCl ([(xa, .inr (11, [.ref x0, .int (nI x1), .ref x2, .int (nI x3), .ref x4, .ref x5, .ref x6, .int x7, .ref x8, .int x9, .int x10]))] ++ va_pl L M_4) H_2 := hP
  have hD : va_D A ([(xa, .inr (11, [.ref x0, .int (nI x1), .ref x2, .int (nI x3), .ref x4, .ref x5, .ref x6, .int x7, .ref x8, .int x9, .int x10]))] ++ va_pl L M_4) := hD
  have hF : fr K0 L0 [2, 5, 58, 59, 61, 62] M0 M_4 := hF.trX hX0 hF2 (by decide)
  have hT2 : fT 2 K0 L0 [9, 15] M0 M_4 := hT2.frrX hX0 hF2 (by decide)
  refine lv_aload_n hx hb dX11_join_7 rfl (lv_at hl 0 rfl) ?_
  refine lv_iload_n hx hb dX11_join_8 rfl (lv_at hl 1 rfl) ?_
  have hPc : va_P D vwCl ([(xa, .inr (11, [.ref x0, .int (nI x1), .ref x2, .int (nI x3), .ref x4, .ref x5, .ref x6, .int x7, .ref x8, .int x9, .int x10]))] ++ va_pl L M_4) H_2 := hP
  have hDc : va_D A ([(xa, .inr (11, [.ref x0, .int (nI x1), .ref x2, .int (nI x3), .ref x4, .ref x5, .ref x6, .int x7, .ref x8, .int x9, .int x10]))] ++ va_pl L M_4) := hD
  have hFc : ∀ q, va_A ([(xa, .inr (11, [.ref x0, .int (nI x1), .ref x2, .int (nI x3), .ref x4, .ref x5, .ref x6, .int x7, .ref x8, .int x9, .int x10]))] ++ va_pl L M_4) H_2.size q → A q := pg_free hDc hS hA
  refine va_callq (va_runV (As := [.int k1]) (rest := []) ⟨hx, hb, hml, hown, hg⟩ (s_X11_houseAt l D cy K L M_4 H_2.size xa x0 x1 x2 x3 x4 x5 x6 x7 x8 x9 x10 k1  hW i0 b1 i2 b3 i4 i5 i6 i8) (cwV 1 hg (gV wd_340 wd_341 wd_342 wd_3 wd_343) rfl rfl rfl (by decide +kernel) ⟨(Nat.le_trans (Nat.le_of_ble_eq_true rfl) hRf), (Nat.le_trans (Nat.le_of_ble_eq_true rfl) hRl)⟩) ⟨PG.blind, va_recv hK hP (ci := 11) (q0 := 0) rfl rfl, fun U hU hW => ⟨rfl, PG.at hPc hK hDc hN hU hW⟩⟩ rfl rfl hl.1 rfl (lv_room (Nat.le_of_ble_eq_true rfl)) dX11_join_9 ⟨(Nat.le_trans (Nat.le_of_ble_eq_true rfl) hRc), (Nat.le_trans (Nat.le_of_ble_eq_true rfl) hRs)⟩) hS (fun q _ h => hFc q h) hFc (fun r_7 M_8 t H_6 locs ht hvm hw hB hz1 hk1 hS => ?_)
  have hp_9 := hw
  obtain ⟨hP1, hD1⟩ := hB
  rw [ht] at hP1
  have hP : va_P D vwCl ([(xa, .inr (11, [.ref x0, .int (nI x1), .ref x2, .int (nI x3), .ref x4, .ref x5, .ref x6, .int x7, .ref x8, .int x9, .int x10]))] ++ va_pl L M_4) H_6 := hP1
  have hD : va_D A ([(xa, .inr (11, [.ref x0, .int (nI x1), .ref x2, .int (nI x3), .ref x4, .ref x5, .ref x6, .int x7, .ref x8, .int x9, .int x10]))] ++ va_pl L M_4) := hD1.mono hFc
  rcases r_7 with _ | b_10
  · have hz := rfl (a := 0)
    refine lv_astoreN (lv' := [(6, .null), (0, .ref xa), (1, .int k1), (2, .int k2), (3, .int k3), (4, .int k4), (5, .int 1)]) hx hb dX11_join_12 hl (by decide) rfl (fun ls hl => ?_)
    refine lv_aload_n hx hb dX11_join_14 rfl (lv_at hl 1 rfl) ?_
    refine lv_iload_n hx hb dX11_join_15 rfl (lv_at hl 4 rfl) ?_
    have hPc : va_P D vwCl ([(xa, .inr (11, [.ref x0, .int (nI x1), .ref x2, .int (nI x3), .ref x4, .ref x5, .ref x6, .int x7, .ref x8, .int x9, .int x10]))] ++ va_pl L M_4) H_6 := hP
    have hDc : va_D A ([(xa, .inr (11, [.ref x0, .int (nI x1), .ref x2, .int (nI x3), .ref x4, .ref x5, .ref x6, .int x7, .ref x8, .int x9, .int x10]))] ++ va_pl L M_4) := hD
    have hFc : ∀ q, va_A ([(xa, .inr (11, [.ref x0, .int (nI x1), .ref x2, .int (nI x3), .ref x4, .ref x5, .ref x6, .int x7, .ref x8, .int x9, .int x10]))] ++ va_pl L M_4) H_6.size q → A q := pg_free hDc hS hA
    refine va_callq (va_runV (As := [.int k3]) (rest := []) ⟨hx, hb, hml, hown, hg⟩ (s_X11_partnerAt l D cy K L M_4 H_6.size xa x0 x1 x2 x3 x4 x5 x6 x7 x8 x9 x10 k3  hW i0 b1 i2 b3 i4 i5 i6 i8) (cwV 1 hg (gV wd_553 wd_554 wd_555 wd_3 wd_556) rfl rfl rfl (by decide +kernel) ⟨(Nat.le_trans (Nat.le_of_ble_eq_true rfl) hRf), (Nat.le_trans (Nat.le_of_ble_eq_true rfl) hRl)⟩) ⟨PG.blind, va_recv hK hP (ci := 11) (q0 := 0) rfl rfl, fun U hU hW => ⟨rfl, PG.at hPc hK hDc hN hU hW⟩⟩ rfl rfl hl.1 rfl (lv_room (Nat.le_of_ble_eq_true rfl)) dX11_join_16 ⟨(Nat.le_trans (Nat.le_of_ble_eq_true rfl) hRc), (Nat.le_trans (Nat.le_of_ble_eq_true rfl) hRs)⟩) hS (fun q _ h => hFc q h) hFc (fun r_12 M_13 t H_11 locs ht hvm hw hB hz1 hk1 hS => ?_)
    have hp_14 := hw
    obtain ⟨hP1, hD1⟩ := hB
    rw [ht] at hP1
    have hP : va_P D vwCl ([(xa, .inr (11, [.ref x0, .int (nI x1), .ref x2, .int (nI x3), .ref x4, .ref x5, .ref x6, .int x7, .ref x8, .int x9, .int x10]))] ++ va_pl L M_4) H_11 := hP1
    have hD : va_D A ([(xa, .inr (11, [.ref x0, .int (nI x1), .ref x2, .int (nI x3), .ref x4, .ref x5, .ref x6, .int x7, .ref x8, .int x9, .int x10]))] ++ va_pl L M_4) := hD1.mono hFc
    rcases r_12 with _ | b_15
    · have hz := rfl (a := 0)
      refine lv_astoreN (lv' := [(7, .null), (6, .null), (0, .ref xa), (1, .int k1), (2, .int k2), (3, .int k3), (4, .int k4), (5, .int 1)]) hx hb dX11_join_19 hl (by decide) rfl (fun ls hl => ?_)
      refine lv_aloadN hx hb dX11_join_21 (lv_at hl 1 rfl) ?_
      refine lv_ifnullN (tgt := 38) hx hb dX11_join_23 (by decide) ?_
      refine lv_aload_n hx hb dX11_join_38 rfl (lv_at hl 2 rfl) ?_
      refine lv_iconst (v := 1) hx hb dX11_join_39 (by decide) ?_
      have hPc := hP.sub (ws' := [(xa, .inr (11, [.ref x0, .int (nI x1), .ref x2, .int (nI x3), .ref x4, .ref x5, .ref x6, .int x7, .ref x8, .int x9, .int x10]))]) [0] rfl
      have hDc := hD.sub (ws' := [(xa, .inr (11, [.ref x0, .int (nI x1), .ref x2, .int (nI x3), .ref x4, .ref x5, .ref x6, .int x7, .ref x8, .int x9, .int x10]))]) [0] (by decide) rfl
      have hKc := hK.sub (tys' := []) [] rfl
      have hFc := va_free (wc := [(xa, .inr (11, [.ref x0, .int (nI x1), .ref x2, .int (nI x3), .ref x4, .ref x5, .ref x6, .int x7, .ref x8, .int x9, .int x10]))]) hD hS hA [0] rfl
      refine va_calli (va_runV (As := [.int 1]) (rest := []) ⟨hx, hb, hml, hown, hg⟩ (k_refuse l D H_11.size xa x0 (nI x1) x2 (nI x3) x4 x5 x6 x7 x8 x9 x10 1) (cwV 1 hg (gV wd_344 wd_345 wd_346 wd_3 wd_347) rfl rfl rfl (by decide +kernel) ⟨(Nat.le_trans (Nat.le_of_ble_eq_true rfl) hRf), (Nat.le_trans (Nat.le_of_ble_eq_true rfl) hRl)⟩) ⟨Pr.blind, va_recv hK hP (ci := 11) (q0 := 0) rfl rfl, fun U hU hW => ⟨rfl, Pr.at hPc hKc hDc hN hU hW⟩⟩ rfl rfl hl.1 rfl (lv_room (Nat.le_of_ble_eq_true rfl)) dX11_join_40 ⟨(Nat.le_trans (Nat.le_of_ble_eq_true rfl) hRc), (Nat.le_trans (Nat.le_of_ble_eq_true rfl) hRs)⟩) hS (fun q _ h => hFc q h) hFc (fun r_17 M_18 t H_16 locs ht hvm hw hB hz1 hk1 hS => ?_)
      have hp_19 := hw
      obtain ⟨hP1, hK1, hD1⟩ := hB
      rw [ht] at hP1
      obtain ⟨hP, hD⟩ := va_joinQ (X := [(xa, .inr (11, [.ref x0, .int (nI x1), .ref x2, .int (nI x3), .ref x4, .ref x5, .ref x6, .int x7, .ref x8, .int x9, .int x10]))]) (cx := [(xa, .inr (11, [.ref x0, .int (nI x1), .ref x2, .int (nI x3), .ref x4, .ref x5, .ref x6, .int x7, .ref x8, .int x9, .int x10]))]) (wr := []) (w1 := [(xa, .inr (11, [.ref x0, .int (nI x1), .ref x2, .int (nI x3), .ref x4, .ref x5, .ref x6, .int x7, .ref x8, .int 1, .int (-1)]))]) (pl := va_pl L M_4) hP hD [0] [] rfl rfl (by decide) (by decide) hk1 hFc hP1 hD1
      have hP : va_P D vwCl ([(xa, .inr (11, [.ref x0, .int (nI x1), .ref x2, .int (nI x3), .ref x4, .ref x5, .ref x6, .int x7, .ref x8, .int 1, .int (-1)]))] ++ va_pl L M_4) H_16 := hP
      have hD : va_D A ([(xa, .inr (11, [.ref x0, .int (nI x1), .ref x2, .int (nI x3), .ref x4, .ref x5, .ref x6, .int x7, .ref x8, .int 1, .int (-1)]))] ++ va_pl L M_4) := hD
      have hq := Eq.symm hp_19
      subst hq
      refine W.widen (k := 1) (n := 16) (Nat.le_of_ble_eq_true rfl) (Nat.le_of_ble_eq_true rfl) ?_
      rw [hQ]
      exact W.iret (v := (-1)) hx hb hr (fun t ht hW9 => ⟨⟨(-1), (K, L, M_4), rfl, ⟨hX0, hW, hF, hT2, trivial⟩, ⟨1, (-1), by rw [ht]; exact hP, hD⟩⟩, hS.F ht⟩) hS.2.2 dX11_join_43
    · have hb_20 := hp_14 b_15 rfl
      refine lv_astore (lv' := [(7, .ref b_15), (6, .null), (0, .ref xa), (1, .int k1), (2, .int k2), (3, .int k3), (4, .int k4), (5, .int 1)]) hx hb dX11_join_19 hl (by decide) rfl (fun ls hl => ?_)
      refine lv_aloadN hx hb dX11_join_21 (lv_at hl 1 rfl) ?_
      refine lv_ifnullN (tgt := 38) hx hb dX11_join_23 (by decide) ?_
      refine lv_aload_n hx hb dX11_join_38 rfl (lv_at hl 2 rfl) ?_
      refine lv_iconst (v := 1) hx hb dX11_join_39 (by decide) ?_
      have hPc := hP.sub (ws' := [(xa, .inr (11, [.ref x0, .int (nI x1), .ref x2, .int (nI x3), .ref x4, .ref x5, .ref x6, .int x7, .ref x8, .int x9, .int x10]))]) [0] rfl
      have hDc := hD.sub (ws' := [(xa, .inr (11, [.ref x0, .int (nI x1), .ref x2, .int (nI x3), .ref x4, .ref x5, .ref x6, .int x7, .ref x8, .int x9, .int x10]))]) [0] (by decide) rfl
      have hKc := hK.sub (tys' := []) [] rfl
      have hFc := va_free (wc := [(xa, .inr (11, [.ref x0, .int (nI x1), .ref x2, .int (nI x3), .ref x4, .ref x5, .ref x6, .int x7, .ref x8, .int x9, .int x10]))]) hD hS hA [0] rfl
      refine va_calli (va_runV (As := [.int 1]) (rest := []) ⟨hx, hb, hml, hown, hg⟩ (k_refuse l D H_11.size xa x0 (nI x1) x2 (nI x3) x4 x5 x6 x7 x8 x9 x10 1) (cwV 1 hg (gV wd_344 wd_345 wd_346 wd_3 wd_347) rfl rfl rfl (by decide +kernel) ⟨(Nat.le_trans (Nat.le_of_ble_eq_true rfl) hRf), (Nat.le_trans (Nat.le_of_ble_eq_true rfl) hRl)⟩) ⟨Pr.blind, va_recv hK hP (ci := 11) (q0 := 0) rfl rfl, fun U hU hW => ⟨rfl, Pr.at hPc hKc hDc hN hU hW⟩⟩ rfl rfl hl.1 rfl (lv_room (Nat.le_of_ble_eq_true rfl)) dX11_join_40 ⟨(Nat.le_trans (Nat.le_of_ble_eq_true rfl) hRc), (Nat.le_trans (Nat.le_of_ble_eq_true rfl) hRs)⟩) hS (fun q _ h => hFc q h) hFc (fun r_22 M_23 t H_21 locs ht hvm hw hB hz1 hk1 hS => ?_)
      have hp_24 := hw
      obtain ⟨hP1, hK1, hD1⟩ := hB
      rw [ht] at hP1
      obtain ⟨hP, hD⟩ := va_joinQ (X := [(xa, .inr (11, [.ref x0, .int (nI x1), .ref x2, .int (nI x3), .ref x4, .ref x5, .ref x6, .int x7, .ref x8, .int x9, .int x10]))]) (cx := [(xa, .inr (11, [.ref x0, .int (nI x1), .ref x2, .int (nI x3), .ref x4, .ref x5, .ref x6, .int x7, .ref x8, .int x9, .int x10]))]) (wr := []) (w1 := [(xa, .inr (11, [.ref x0, .int (nI x1), .ref x2, .int (nI x3), .ref x4, .ref x5, .ref x6, .int x7, .ref x8, .int 1, .int (-1)]))]) (pl := va_pl L M_4) hP hD [0] [] rfl rfl (by decide) (by decide) hk1 hFc hP1 hD1
      have hP : va_P D vwCl ([(xa, .inr (11, [.ref x0, .int (nI x1), .ref x2, .int (nI x3), .ref x4, .ref x5, .ref x6, .int x7, .ref x8, .int 1, .int (-1)]))] ++ va_pl L M_4) H_21 := hP
      have hD : va_D A ([(xa, .inr (11, [.ref x0, .int (nI x1), .ref x2, .int (nI x3), .ref x4, .ref x5, .ref x6, .int x7, .ref x8, .int 1, .int (-1)]))] ++ va_pl L M_4) := hD
      have hq := Eq.symm hp_24
      subst hq
      refine W.widen (k := 1) (n := 16) (Nat.le_of_ble_eq_true rfl) (Nat.le_of_ble_eq_true rfl) ?_
      rw [hQ]
      exact W.iret (v := (-1)) hx hb hr (fun t ht hW9 => ⟨⟨(-1), (K, L, M_4), rfl, ⟨hX0, hW, hF, hT2, trivial⟩, ⟨1, (-1), by rw [ht]; exact hP, hD⟩⟩, hS.F ht⟩) hS.2.2 dX11_join_43
  · have hb_25 := hp_9 b_10 rfl
    refine lv_astore (lv' := [(6, .ref b_10), (0, .ref xa), (1, .int k1), (2, .int k2), (3, .int k3), (4, .int k4), (5, .int 1)]) hx hb dX11_join_12 hl (by decide) rfl (fun ls hl => ?_)
    refine lv_aload_n hx hb dX11_join_14 rfl (lv_at hl 1 rfl) ?_
    refine lv_iload_n hx hb dX11_join_15 rfl (lv_at hl 4 rfl) ?_
    have hPc : va_P D vwCl ([(xa, .inr (11, [.ref x0, .int (nI x1), .ref x2, .int (nI x3), .ref x4, .ref x5, .ref x6, .int x7, .ref x8, .int x9, .int x10]))] ++ va_pl L M_4) H_6 := hP
    have hDc : va_D A ([(xa, .inr (11, [.ref x0, .int (nI x1), .ref x2, .int (nI x3), .ref x4, .ref x5, .ref x6, .int x7, .ref x8, .int x9, .int x10]))] ++ va_pl L M_4) := hD
    have hFc : ∀ q, va_A ([(xa, .inr (11, [.ref x0, .int (nI x1), .ref x2, .int (nI x3), .ref x4, .ref x5, .ref x6, .int x7, .ref x8, .int x9, .int x10]))] ++ va_pl L M_4) H_6.size q → A q := pg_free hDc hS hA
    refine va_callq (va_runV (As := [.int k3]) (rest := []) ⟨hx, hb, hml, hown, hg⟩ (s_X11_partnerAt l D cy K L M_4 H_6.size xa x0 x1 x2 x3 x4 x5 x6 x7 x8 x9 x10 k3  hW i0 b1 i2 b3 i4 i5 i6 i8) (cwV 1 hg (gV wd_553 wd_554 wd_555 wd_3 wd_556) rfl rfl rfl (by decide +kernel) ⟨(Nat.le_trans (Nat.le_of_ble_eq_true rfl) hRf), (Nat.le_trans (Nat.le_of_ble_eq_true rfl) hRl)⟩) ⟨PG.blind, va_recv hK hP (ci := 11) (q0 := 0) rfl rfl, fun U hU hW => ⟨rfl, PG.at hPc hK hDc hN hU hW⟩⟩ rfl rfl hl.1 rfl (lv_room (Nat.le_of_ble_eq_true rfl)) dX11_join_16 ⟨(Nat.le_trans (Nat.le_of_ble_eq_true rfl) hRc), (Nat.le_trans (Nat.le_of_ble_eq_true rfl) hRs)⟩) hS (fun q _ h => hFc q h) hFc (fun r_27 M_28 t H_26 locs ht hvm hw hB hz1 hk1 hS => ?_)
    have hp_29 := hw
    obtain ⟨hP1, hD1⟩ := hB
    rw [ht] at hP1
    have hP : va_P D vwCl ([(xa, .inr (11, [.ref x0, .int (nI x1), .ref x2, .int (nI x3), .ref x4, .ref x5, .ref x6, .int x7, .ref x8, .int x9, .int x10]))] ++ va_pl L M_4) H_26 := hP1
    have hD : va_D A ([(xa, .inr (11, [.ref x0, .int (nI x1), .ref x2, .int (nI x3), .ref x4, .ref x5, .ref x6, .int x7, .ref x8, .int x9, .int x10]))] ++ va_pl L M_4) := hD1.mono hFc
    rcases r_27 with _ | b_30
    · have hz := rfl (a := 0)
      refine lv_astoreN (lv' := [(7, .null), (6, .ref b_10), (0, .ref xa), (1, .int k1), (2, .int k2), (3, .int k3), (4, .int k4), (5, .int 1)]) hx hb dX11_join_19 hl (by decide) rfl (fun ls hl => ?_)
      refine lv_aload hx hb dX11_join_21 (lv_at hl 1 rfl) ?_
      refine lv_ifnull hx hb dX11_join_23 ?_
      refine lv_aloadN hx hb dX11_join_26 (lv_at hl 0 rfl) ?_
      refine lv_ifnullN (tgt := 38) hx hb dX11_join_28 (by decide) ?_
      refine lv_aload_n hx hb dX11_join_38 rfl (lv_at hl 2 rfl) ?_
      refine lv_iconst (v := 1) hx hb dX11_join_39 (by decide) ?_
      have hPc := hP.sub (ws' := [(xa, .inr (11, [.ref x0, .int (nI x1), .ref x2, .int (nI x3), .ref x4, .ref x5, .ref x6, .int x7, .ref x8, .int x9, .int x10]))]) [0] rfl
      have hDc := hD.sub (ws' := [(xa, .inr (11, [.ref x0, .int (nI x1), .ref x2, .int (nI x3), .ref x4, .ref x5, .ref x6, .int x7, .ref x8, .int x9, .int x10]))]) [0] (by decide) rfl
      have hKc := hK.sub (tys' := []) [] rfl
      have hFc := va_free (wc := [(xa, .inr (11, [.ref x0, .int (nI x1), .ref x2, .int (nI x3), .ref x4, .ref x5, .ref x6, .int x7, .ref x8, .int x9, .int x10]))]) hD hS hA [0] rfl
      refine va_calli (va_runV (As := [.int 1]) (rest := []) ⟨hx, hb, hml, hown, hg⟩ (k_refuse l D H_26.size xa x0 (nI x1) x2 (nI x3) x4 x5 x6 x7 x8 x9 x10 1) (cwV 1 hg (gV wd_344 wd_345 wd_346 wd_3 wd_347) rfl rfl rfl (by decide +kernel) ⟨(Nat.le_trans (Nat.le_of_ble_eq_true rfl) hRf), (Nat.le_trans (Nat.le_of_ble_eq_true rfl) hRl)⟩) ⟨Pr.blind, va_recv hK hP (ci := 11) (q0 := 0) rfl rfl, fun U hU hW => ⟨rfl, Pr.at hPc hKc hDc hN hU hW⟩⟩ rfl rfl hl.1 rfl (lv_room (Nat.le_of_ble_eq_true rfl)) dX11_join_40 ⟨(Nat.le_trans (Nat.le_of_ble_eq_true rfl) hRc), (Nat.le_trans (Nat.le_of_ble_eq_true rfl) hRs)⟩) hS (fun q _ h => hFc q h) hFc (fun r_32 M_33 t H_31 locs ht hvm hw hB hz1 hk1 hS => ?_)
      have hp_34 := hw
      obtain ⟨hP1, hK1, hD1⟩ := hB
      rw [ht] at hP1
      obtain ⟨hP, hD⟩ := va_joinQ (X := [(xa, .inr (11, [.ref x0, .int (nI x1), .ref x2, .int (nI x3), .ref x4, .ref x5, .ref x6, .int x7, .ref x8, .int x9, .int x10]))]) (cx := [(xa, .inr (11, [.ref x0, .int (nI x1), .ref x2, .int (nI x3), .ref x4, .ref x5, .ref x6, .int x7, .ref x8, .int x9, .int x10]))]) (wr := []) (w1 := [(xa, .inr (11, [.ref x0, .int (nI x1), .ref x2, .int (nI x3), .ref x4, .ref x5, .ref x6, .int x7, .ref x8, .int 1, .int (-1)]))]) (pl := va_pl L M_4) hP hD [0] [] rfl rfl (by decide) (by decide) hk1 hFc hP1 hD1
      have hP : va_P D vwCl ([(xa, .inr (11, [.ref x0, .int (nI x1), .ref x2, .int (nI x3), .ref x4, .ref x5, .ref x6, .int x7, .ref x8, .int 1, .int (-1)]))] ++ va_pl L M_4) H_31 := hP
      have hD : va_D A ([(xa, .inr (11, [.ref x0, .int (nI x1), .ref x2, .int (nI x3), .ref x4, .ref x5, .ref x6, .int x7, .ref x8, .int 1, .int (-1)]))] ++ va_pl L M_4) := hD
      have hq := Eq.symm hp_34
      subst hq
      refine W.widen (k := 1) (n := 16) (Nat.le_of_ble_eq_true rfl) (Nat.le_of_ble_eq_true rfl) ?_
      rw [hQ]
      exact W.iret (v := (-1)) hx hb hr (fun t ht hW9 => ⟨⟨(-1), (K, L, M_4), rfl, ⟨hX0, hW, hF, hT2, trivial⟩, ⟨1, (-1), by rw [ht]; exact hP, hD⟩⟩, hS.F ht⟩) hS.2.2 dX11_join_43
    · have hb_35 := hp_29 b_30 rfl
      refine lv_astore (lv' := [(7, .ref b_30), (6, .ref b_10), (0, .ref xa), (1, .int k1), (2, .int k2), (3, .int k3), (4, .int k4), (5, .int 1)]) hx hb dX11_join_19 hl (by decide) rfl (fun ls hl => ?_)
      refine lv_aload hx hb dX11_join_21 (lv_at hl 1 rfl) ?_
      refine lv_ifnull hx hb dX11_join_23 ?_
      refine lv_aload hx hb dX11_join_26 (lv_at hl 0 rfl) ?_
      refine lv_ifnull hx hb dX11_join_28 ?_
      refine lv_iload_n hx hb dX11_join_31 rfl (lv_at hl 4 rfl) ?_
      have hPc : va_P D vwCl ([] ++ va_pl L M_4) H_26 := hP.part (cx := []) [] rfl
      have hDc : va_D A ([] ++ va_pl L M_4) := hD.part (cx := []) [] (by decide) rfl
      have hFc : ∀ q, va_A ([] ++ va_pl L M_4) H_26.size q → A q := pg_free hDc hS hA
      refine va_calli (va_runS (As := [.int k2]) (rest := []) ⟨hx, hb, hml, hown, hg⟩ (s_X11_isSeat l D cy K L M_4 H_26.size k2  hW ) (va_cwS 1 hg (gS wd_348 wd_47 wd_3 wd_46) rfl rfl rfl (by decide +kernel) ⟨(Nat.le_trans (Nat.le_of_ble_eq_true rfl) hRf), (Nat.le_trans (Nat.le_of_ble_eq_true rfl) hRl)⟩) ⟨PG.blind, fun U hU hW => ⟨rfl, PG.at hPc hK hDc hN hU hW⟩⟩ rfl rfl hl.1 rfl (lv_room (Nat.le_of_ble_eq_true rfl)) dX11_join_32 ⟨(Nat.le_trans (Nat.le_of_ble_eq_true rfl) hRc), (Nat.le_trans (Nat.le_of_ble_eq_true rfl) hRs)⟩) hS (fun q _ h => hFc q h) hFc (fun r_37 M_38 t H_36 locs ht hvm hw hB hz1 hk1 hS => ?_)
      have hp_39 := hw
      obtain ⟨hP1, hD1⟩ := hB
      rw [ht] at hP1
      obtain ⟨hP, hD⟩ := va_joinP (X := [(xa, .inr (11, [.ref x0, .int (nI x1), .ref x2, .int (nI x3), .ref x4, .ref x5, .ref x6, .int x7, .ref x8, .int x9, .int x10]))]) (cx := []) (wr := [(xa, .inr (11, [.ref x0, .int (nI x1), .ref x2, .int (nI x3), .ref x4, .ref x5, .ref x6, .int x7, .ref x8, .int x9, .int x10]))]) (rx := []) (pl := va_pl L M_4) (pl1 := va_pl L M_4) hP hD [] [0] rfl rfl (by decide) (by decide) hk1 hFc hP1 hD1
      have hP : va_P D vwCl ([(xa, .inr (11, [.ref x0, .int (nI x1), .ref x2, .int (nI x3), .ref x4, .ref x5, .ref x6, .int x7, .ref x8, .int x9, .int x10]))] ++ va_pl L M_4) H_36 := hP
      have hD : va_D A ([(xa, .inr (11, [.ref x0, .int (nI x1), .ref x2, .int (nI x3), .ref x4, .ref x5, .ref x6, .int x7, .ref x8, .int x9, .int x10]))] ++ va_pl L M_4) := hD
      rcases hp_39 with ⟨rfl, c_40, c_41⟩ | rfl
      · have hz := rfl (a := 0)
        refine lv_if_ne (tgt := 44) hx hb dX11_join_35 (by decide) (fun _ => ?_) (fun c_42 => absurd c_42 (by decide))
        refine lv_aload hx hb dX11_join_44 (lv_at hl 1 rfl) ?_
        refine lv_iload hx hb dX11_join_46 (lv_at hl 6 rfl) ?_
        obtain ⟨v43_0, v43_1, v43_2, v43_3, v43_4, v43_5, v43_6, v43_7, v43_8, v43_9, v43_10, v43_11, v43_12, v43_13, v43_14, v43_15, v43_16, v43_17, v43_18, v43_19, hM43, h43_3, h43_4, h43_5, h43_6, h43_7, h43_8, h43_9, h43_10, h43_11, h43_12, h43_13, h43_16, h43_17, h43_18, h43_19⟩ := hW.open_2 hb_25
        have hPc : va_P D vwCl ([] ++ va_pl L M_4) H_36 := hP.part (cx := []) [] rfl
        have hDc : va_D A ([] ++ va_pl L M_4) := hD.part (cx := []) [] (by decide) rfl
        have hFc : ∀ q, va_A ([] ++ va_pl L M_4) H_36.size q → A q := pg_free hDc hS hA
        refine va_calli (va_runV (As := [.int k4]) (rest := []) ⟨hx, hb, hml, hown, hg⟩ (s_X2_isFree l D cy K L M_4 H_36.size b_10 k4  hW hb_25) (cwV 1 hg (gV wd_361 wd_362 wd_363 wd_57 wd_364) rfl rfl rfl (by decide +kernel) ⟨(Nat.le_trans (Nat.le_of_ble_eq_true rfl) hRf), (Nat.le_trans (Nat.le_of_ble_eq_true rfl) hRl)⟩) ⟨PG.blind, pg_recv hK hP hb_25.1 hM43 rfl, fun U hU hW => ⟨rfl, PG.at hPc hK hDc hN hU hW⟩⟩ rfl rfl hl.1 rfl (lv_room (Nat.le_of_ble_eq_true rfl)) dX11_join_48 ⟨(Nat.le_trans (Nat.le_of_ble_eq_true rfl) hRc), (Nat.le_trans (Nat.le_of_ble_eq_true rfl) hRs)⟩) hS (fun q _ h => hFc q h) hFc (fun r_45 M_46 t H_44 locs ht hvm hw hB hz1 hk1 hS => ?_)
        have hp_47 := hw
        obtain ⟨hP1, hD1⟩ := hB
        rw [ht] at hP1
        obtain ⟨hP, hD⟩ := va_joinP (X := [(xa, .inr (11, [.ref x0, .int (nI x1), .ref x2, .int (nI x3), .ref x4, .ref x5, .ref x6, .int x7, .ref x8, .int x9, .int x10]))]) (cx := []) (wr := [(xa, .inr (11, [.ref x0, .int (nI x1), .ref x2, .int (nI x3), .ref x4, .ref x5, .ref x6, .int x7, .ref x8, .int x9, .int x10]))]) (rx := []) (pl := va_pl L M_4) (pl1 := va_pl L M_4) hP hD [] [0] rfl rfl (by decide) (by decide) hk1 hFc hP1 hD1
        have hP : va_P D vwCl ([(xa, .inr (11, [.ref x0, .int (nI x1), .ref x2, .int (nI x3), .ref x4, .ref x5, .ref x6, .int x7, .ref x8, .int x9, .int x10]))] ++ va_pl L M_4) H_44 := hP
        have hD : va_D A ([(xa, .inr (11, [.ref x0, .int (nI x1), .ref x2, .int (nI x3), .ref x4, .ref x5, .ref x6, .int x7, .ref x8, .int x9, .int x10]))] ++ va_pl L M_4) := hD
        rcases hp_47 with ⟨rfl, c_48, c_49⟩ | rfl
        · have hz := rfl (a := 0)
          refine lv_if_ne (tgt := 60) hx hb dX11_join_51 (by decide) (fun _ => ?_) (fun c_50 => absurd c_50 (by decide))
          refine lv_aload hx hb dX11_join_60 (lv_at hl 1 rfl) ?_
          refine pg_get (D := D) (ci := 2) (v := .ref v43_6) (C := RX2) (T := TX2) (N := 20) hx hb hg inG2 hown hK hP hb_25.1 hM43 rfl 6 (by decide) (hg _ wd_350) (fun _ h9 => h9) rfl dX11_join_62 ?_
          refine lv_iload_n hx hb dX11_join_65 rfl (lv_at hl 4 rfl) ?_
          obtain ⟨f51, hM51⟩ := hW.open_52 h43_6
          refine pg_iald hx hb hK hP h43_6.1 0 hM51 rfl (inb k2 6 (by omega) c_40 c_41) dX11_join_66 ?_
          refine lv_topi (fun f_52 ef_52 => ?_)
          refine lv_if_ne (tgt := 81) hx hb dX11_join_67 (by decide) (fun c_53 => ?_) (fun c_53 => ?_)
          · have hz := rfl (a := 0)
            refine lv_aload_n hx hb dX11_join_81 rfl (lv_at hl 2 rfl) ?_
            refine lv_iconst (v := 4) hx hb dX11_join_82 (by decide) ?_
            have hPc := hP.sub (ws' := [(xa, .inr (11, [.ref x0, .int (nI x1), .ref x2, .int (nI x3), .ref x4, .ref x5, .ref x6, .int x7, .ref x8, .int x9, .int x10]))]) [0] rfl
            have hDc := hD.sub (ws' := [(xa, .inr (11, [.ref x0, .int (nI x1), .ref x2, .int (nI x3), .ref x4, .ref x5, .ref x6, .int x7, .ref x8, .int x9, .int x10]))]) [0] (by decide) rfl
            have hKc := hK.sub (tys' := []) [] rfl
            have hFc := va_free (wc := [(xa, .inr (11, [.ref x0, .int (nI x1), .ref x2, .int (nI x3), .ref x4, .ref x5, .ref x6, .int x7, .ref x8, .int x9, .int x10]))]) hD hS hA [0] rfl
            refine va_calli (va_runV (As := [.int 4]) (rest := []) ⟨hx, hb, hml, hown, hg⟩ (k_refuse l D H_44.size xa x0 (nI x1) x2 (nI x3) x4 x5 x6 x7 x8 x9 x10 4) (cwV 1 hg (gV wd_344 wd_345 wd_346 wd_3 wd_347) rfl rfl rfl (by decide +kernel) ⟨(Nat.le_trans (Nat.le_of_ble_eq_true rfl) hRf), (Nat.le_trans (Nat.le_of_ble_eq_true rfl) hRl)⟩) ⟨Pr.blind, va_recv hK hP (ci := 11) (q0 := 0) rfl rfl, fun U hU hW => ⟨rfl, Pr.at hPc hKc hDc hN hU hW⟩⟩ rfl rfl hl.1 rfl (lv_room (Nat.le_of_ble_eq_true rfl)) dX11_join_83 ⟨(Nat.le_trans (Nat.le_of_ble_eq_true rfl) hRc), (Nat.le_trans (Nat.le_of_ble_eq_true rfl) hRs)⟩) hS (fun q _ h => hFc q h) hFc (fun r_55 M_56 t H_54 locs ht hvm hw hB hz1 hk1 hS => ?_)
            have hp_57 := hw
            obtain ⟨hP1, hK1, hD1⟩ := hB
            rw [ht] at hP1
            obtain ⟨hP, hD⟩ := va_joinQ (X := [(xa, .inr (11, [.ref x0, .int (nI x1), .ref x2, .int (nI x3), .ref x4, .ref x5, .ref x6, .int x7, .ref x8, .int x9, .int x10]))]) (cx := [(xa, .inr (11, [.ref x0, .int (nI x1), .ref x2, .int (nI x3), .ref x4, .ref x5, .ref x6, .int x7, .ref x8, .int x9, .int x10]))]) (wr := []) (w1 := [(xa, .inr (11, [.ref x0, .int (nI x1), .ref x2, .int (nI x3), .ref x4, .ref x5, .ref x6, .int x7, .ref x8, .int 4, .int (-1)]))]) (pl := va_pl L M_4) hP hD [0] [] rfl rfl (by decide) (by decide) hk1 hFc hP1 hD1
            have hP : va_P D vwCl ([(xa, .inr (11, [.ref x0, .int (nI x1), .ref x2, .int (nI x3), .ref x4, .ref x5, .ref x6, .int x7, .ref x8, .int 4, .int (-1)]))] ++ va_pl L M_4) H_54 := hP
            have hD : va_D A ([(xa, .inr (11, [.ref x0, .int (nI x1), .ref x2, .int (nI x3), .ref x4, .ref x5, .ref x6, .int x7, .ref x8, .int 4, .int (-1)]))] ++ va_pl L M_4) := hD
            have hq := Eq.symm hp_57
            subst hq
            refine W.widen (k := 1) (n := 16) (Nat.le_of_ble_eq_true rfl) (Nat.le_of_ble_eq_true rfl) ?_
            rw [hQ]
            exact W.iret (v := (-1)) hx hb hr (fun t ht hW9 => ⟨⟨(-1), (K, L, M_4), rfl, ⟨hX0, hW, hF, hT2, trivial⟩, ⟨4, (-1), by rw [ht]; exact hP, hD⟩⟩, hS.F ht⟩) hS.2.2 dX11_join_86
          · have hz := rfl (a := 0)
            refine lv_aload hx hb dX11_join_70 (lv_at hl 1 rfl) ?_
            refine lv_iload_n hx hb dX11_join_72 rfl (lv_at hl 4 rfl) ?_
            refine lv_iload hx hb dX11_join_73 (lv_at hl 6 rfl) ?_
            have hPc : va_P D vwCl ([] ++ va_pl L M_4) H_44 := hP.part (cx := []) [] rfl
            have hDc : va_D A ([] ++ va_pl L M_4) := hD.part (cx := []) [] (by decide) rfl
            have hFc : ∀ q, va_A ([] ++ va_pl L M_4) H_44.size q → A q := pg_free hDc hS hA
            refine va_calli (va_runV (As := [.int k2, .int k4]) (rest := []) ⟨hx, hb, hml, hown, hg⟩ (s_X2_isVacantFrom l D cy K L M_4 H_44.size b_10 k2 k4  hW hb_25) (cwV 2 hg (gV wd_557 wd_558 wd_559 wd_57 wd_560) rfl rfl rfl (by decide +kernel) ⟨(Nat.le_trans (Nat.le_of_ble_eq_true rfl) hRf), (Nat.le_trans (Nat.le_of_ble_eq_true rfl) hRl)⟩) ⟨PG.blind, pg_recv hK hP hb_25.1 hM43 rfl, fun U hU hW => ⟨rfl, PG.at hPc hK hDc hN hU hW⟩⟩ rfl rfl hl.1 rfl (lv_room (Nat.le_of_ble_eq_true rfl)) dX11_join_75 ⟨(Nat.le_trans (Nat.le_of_ble_eq_true rfl) hRc), (Nat.le_trans (Nat.le_of_ble_eq_true rfl) hRs)⟩) hS (fun q _ h => hFc q h) hFc (fun r_59 M_60 t H_58 locs ht hvm hw hB hz1 hk1 hS => ?_)
            have hp_61 := hw
            obtain ⟨hP1, hD1⟩ := hB
            rw [ht] at hP1
            obtain ⟨hP, hD⟩ := va_joinP (X := [(xa, .inr (11, [.ref x0, .int (nI x1), .ref x2, .int (nI x3), .ref x4, .ref x5, .ref x6, .int x7, .ref x8, .int x9, .int x10]))]) (cx := []) (wr := [(xa, .inr (11, [.ref x0, .int (nI x1), .ref x2, .int (nI x3), .ref x4, .ref x5, .ref x6, .int x7, .ref x8, .int x9, .int x10]))]) (rx := []) (pl := va_pl L M_4) (pl1 := va_pl L M_4) hP hD [] [0] rfl rfl (by decide) (by decide) hk1 hFc hP1 hD1
            have hP : va_P D vwCl ([(xa, .inr (11, [.ref x0, .int (nI x1), .ref x2, .int (nI x3), .ref x4, .ref x5, .ref x6, .int x7, .ref x8, .int x9, .int x10]))] ++ va_pl L M_4) H_58 := hP
            have hD : va_D A ([(xa, .inr (11, [.ref x0, .int (nI x1), .ref x2, .int (nI x3), .ref x4, .ref x5, .ref x6, .int x7, .ref x8, .int x9, .int x10]))] ++ va_pl L M_4) := hD
            rcases hp_61 with rfl | rfl
            · have hz := rfl (a := 0)
              refine lv_if_ne (tgt := 87) hx hb dX11_join_78 (by decide) (fun _ => ?_) (fun c_62 => absurd c_62 (by decide))
              refine lv_aload hx hb dX11_join_87 (lv_at hl 0 rfl) ?_
              obtain ⟨v63_0, v63_1, v63_2, v63_3, hM63, h63_3⟩ := hW.open_4 hb_35
              refine pg_get (D := D) (ci := 4) (v := va_rf v63_3) (C := RX4) (T := TX4) (N := 4) hx hb hg inG4 hown hK hP hb_35.1 hM63 rfl 3 (by decide) (hg _ wd_561) (fun _ h9 => h9) rfl dX11_join_89 ?_
              rcases v63_3 with _ | b_64
              · have hz := rfl (a := 0)
                refine lv_ifnullN (tgt := 133) hx hb dX11_join_92 (by decide) ?_
                refine lv_aload hx hb dX11_join_133 (lv_at hl 1 rfl) ?_
                refine pg_get (D := D) (ci := 2) (v := .int (nI v43_9)) (C := RX2) (T := TX2) (N := 20) hx hb hg inG2 hown hK hP hb_25.1 hM43 rfl 9 (by decide) (hg _ wd_465) (fun _ h9 => h9) rfl dX11_join_135 ?_
                refine lv_bipush (v := 24) hx hb dX11_join_138 (by decide) ?_
                refine lv_icmp_lt (tgt := 150) hx hb dX11_join_140 (by decide) (fun c_65 => ?_) (fun c_65 => ?_)
                · have hz := rfl (a := 0)
                  have n_66 : v43_9 < 24 := (iLT (a := v43_9) (b := 24) (by omega) (by omega)).mp c_65
                  refine lv_aload_n hx hb dX11_join_150 rfl (lv_at hl 2 rfl) ?_
                  refine lv_aload hx hb dX11_join_151 (lv_at hl 1 rfl) ?_
                  refine lv_aload hx hb dX11_join_153 (lv_at hl 0 rfl) ?_
                  refine lv_iload_n hx hb dX11_join_155 rfl (lv_at hl 4 rfl) ?_
                  refine lv_iload hx hb dX11_join_156 (lv_at hl 6 rfl) ?_
                  refine lv_iload hx hb dX11_join_158 (lv_at hl 7 rfl) ?_
                  have hPc : va_P D vwCl ([] ++ va_pl L M_4) H_58 := hP.part (cx := []) [] rfl
                  have hDc : va_D A ([] ++ va_pl L M_4) := hD.part (cx := []) [] (by decide) rfl
                  have hFc : ∀ q, va_A ([] ++ va_pl L M_4) H_58.size q → A q := pg_free hDc hS hA
                  refine va_calli (va_runV (As := [.ref b_30, .int k2, .int k4, .int 1]) (rest := [.ref xa]) ⟨hx, hb, hml, hown, hg⟩ (s_addTenure_1 l D cy K L M_4 H_58.size b_10 b_30 k2 k4  hW hb_25 hb_35) (cwV 4 hg (gV wd_562 wd_563 wd_564 wd_57 wd_565) rfl rfl rfl (by decide +kernel) ⟨(Nat.le_trans (Nat.le_of_ble_eq_true rfl) hRf), (Nat.le_trans (Nat.le_of_ble_eq_true rfl) hRl)⟩) ⟨PG.blind, pg_recv hK hP hb_25.1 hM43 rfl, fun U hU hW => ⟨rfl, PG.at hPc hK hDc hN hU hW⟩⟩ rfl rfl hl.1 rfl (lv_room (Nat.le_of_ble_eq_true rfl)) dX11_join_160 ⟨(Nat.le_trans (Nat.le_of_ble_eq_true rfl) hRc), (Nat.le_trans (Nat.le_of_ble_eq_true rfl) hRs)⟩) hS (fun q _ h => hFc q h) hFc (fun r_68 M_69 t H_67 locs ht hvm hw hB hz1 hk1 hS => ?_)
                  obtain ⟨K9, L9, M_69m⟩ := M_69
                  dsimp only at hw hB
                  obtain ⟨hx9, hW, hF2, gT2, hp_70⟩ := hw
                  obtain ⟨hP1, hD1⟩ := hB
                  rw [ht] at hP1
                  obtain ⟨hP, hD⟩ := va_joinP (X := [(xa, .inr (11, [.ref x0, .int (nI x1), .ref x2, .int (nI x3), .ref x4, .ref x5, .ref x6, .int x7, .ref x8, .int x9, .int x10]))]) (cx := []) (wr := [(xa, .inr (11, [.ref x0, .int (nI x1), .ref x2, .int (nI x3), .ref x4, .ref x5, .ref x6, .int x7, .ref x8, .int x9, .int x10]))]) (rx := []) (pl := va_pl L M_4) (pl1 := va_pl L9 M_69m) hP hD [] [0] rfl rfl (by decide) (by decide) hk1 hFc hP1 hD1
                  have hP : va_P D vwCl ([(xa, .inr (11, [.ref x0, .int (nI x1), .ref x2, .int (nI x3), .ref x4, .ref x5, .ref x6, .int x7, .ref x8, .int x9, .int x10]))] ++ va_pl L9 M_69m) H_67 := hP
                  have hD : va_D A ([(xa, .inr (11, [.ref x0, .int (nI x1), .ref x2, .int (nI x3), .ref x4, .ref x5, .ref x6, .int x7, .ref x8, .int x9, .int x10]))] ++ va_pl L9 M_69m) := hD
                  have hM_71 : M_69m v43_6 = .inl (cy 14, 6, .inl (f51)) := (hF2.at h43_6 (by decide)).trans hM51
                  have hM_72 : M_69m b_30 = .inr (4, [.int v63_0, .int v63_1, .int v63_2, va_rf none]) := (hF2.at hb_35 (by decide)).trans hM63
                  have hF : fr K0 L0 [2, 5, 58, 59, 61, 62] M0 M_69m := hF.trX hX0 hF2 (by decide)
                  have hT2 : fT 2 K0 L0 [9, 15] M0 M_69m := hT2.trX hX0 gT2 (by decide)
                  have hX0 := hX0.tr hx9
                  have i_73 := i0.ext hx9
                  have i_74 := i2.ext hx9
                  have i_75 := i4.ext hx9
                  have i_76 := i5.ext hx9
                  have i_77 := i6.ext hx9
                  have i_78 := i8.ext hx9
                  have i_79 := hb_25.ext hx9
                  have i_80 := hb_35.ext hx9
                  have i_81 := h43_6.ext hx9
                  obtain ⟨K, L, hK9, hL9⟩ : ∃ (K : Kp) (L : List Nat), K = K9 ∧ L = L9 := ⟨_, _, rfl, rfl⟩
                  subst hK9
                  subst hL9
                  refine W.widen (k := 1) (n := 16) (Nat.le_of_ble_eq_true rfl) (Nat.le_of_ble_eq_true rfl) ?_
                  have hPc := hP.sub (ws' := [(xa, .inr (11, [.ref x0, .int (nI x1), .ref x2, .int (nI x3), .ref x4, .ref x5, .ref x6, .int x7, .ref x8, .int x9, .int x10]))]) [0] rfl
                  have hDc := hD.sub (ws' := [(xa, .inr (11, [.ref x0, .int (nI x1), .ref x2, .int (nI x3), .ref x4, .ref x5, .ref x6, .int x7, .ref x8, .int x9, .int x10]))]) [0] (by decide) rfl
                  have hKc := hK.sub (tys' := []) [] rfl
                  have hFc := va_free (wc := [(xa, .inr (11, [.ref x0, .int (nI x1), .ref x2, .int (nI x3), .ref x4, .ref x5, .ref x6, .int x7, .ref x8, .int x9, .int x10]))]) hD hS hA [0] rfl
                  refine va_calli (va_runV (As := [.int r_68]) (rest := []) ⟨hx, hb, hml, hown, hg⟩ (k_accept l D H_67.size xa x0 (nI x1) x2 (nI x3) x4 x5 x6 x7 x8 x9 x10 r_68) (cwV 1 hg (gV wd_356 wd_357 wd_358 wd_3 wd_359) rfl rfl rfl (by decide +kernel) ⟨(Nat.le_trans (Nat.le_of_ble_eq_true rfl) hRf), (Nat.le_trans (Nat.le_of_ble_eq_true rfl) hRl)⟩) ⟨Pr.blind, va_recv hK hP (ci := 11) (q0 := 0) rfl rfl, fun U hU hW => ⟨rfl, Pr.at hPc hKc hDc hN hU hW⟩⟩ rfl rfl hl.1 rfl (lv_room (Nat.le_of_ble_eq_true rfl)) dX11_join_163 ⟨(Nat.le_trans (Nat.le_of_ble_eq_true rfl) hRc), (Nat.le_trans (Nat.le_of_ble_eq_true rfl) hRs)⟩) hS (fun q _ h => hFc q h) hFc (fun r_83 M_84 t H_82 locs ht hvm hw hB hz1 hk1 hS => ?_)
                  have hp_85 := hw
                  obtain ⟨hP1, hK1, hD1⟩ := hB
                  rw [ht] at hP1
                  obtain ⟨hP, hD⟩ := va_joinQ (X := [(xa, .inr (11, [.ref x0, .int (nI x1), .ref x2, .int (nI x3), .ref x4, .ref x5, .ref x6, .int x7, .ref x8, .int x9, .int x10]))]) (cx := [(xa, .inr (11, [.ref x0, .int (nI x1), .ref x2, .int (nI x3), .ref x4, .ref x5, .ref x6, .int x7, .ref x8, .int x9, .int x10]))]) (wr := []) (w1 := [(xa, .inr (11, [.ref x0, .int (nI x1), .ref x2, .int (nI x3), .ref x4, .ref x5, .ref x6, .int x7, .ref x8, .int 0, .int (-1)]))]) (pl := va_pl L M_69m) hP hD [0] [] rfl rfl (by decide) (by decide) hk1 hFc hP1 hD1
                  have hP : va_P D vwCl ([(xa, .inr (11, [.ref x0, .int (nI x1), .ref x2, .int (nI x3), .ref x4, .ref x5, .ref x6, .int x7, .ref x8, .int 0, .int (-1)]))] ++ va_pl L M_69m) H_82 := hP
                  have hD : va_D A ([(xa, .inr (11, [.ref x0, .int (nI x1), .ref x2, .int (nI x3), .ref x4, .ref x5, .ref x6, .int x7, .ref x8, .int 0, .int (-1)]))] ++ va_pl L M_69m) := hD
                  have hq := Eq.symm hp_85
                  subst hq
                  rw [hQ]
                  exact W.iret (v := r_68) hx hb hr (fun t ht hW9 => ⟨⟨r_68, (K, L, M_69m), rfl, ⟨hX0, hW, hF, hT2, trivial⟩, ⟨0, (-1), by rw [ht]; exact hP, hD⟩⟩, hS.F ht⟩) hS.2.2 dX11_join_166
                · have hz := rfl (a := 0)
                  have n_86 : ¬ (v43_9 < 24) := fun q => c_65 ((iLT (a := v43_9) (b := 24) (by omega) (by omega)).mpr q)
                  refine lv_aload_n hx hb dX11_join_143 rfl (lv_at hl 2 rfl) ?_
                  refine lv_bipush (v := 9) hx hb dX11_join_144 (by decide) ?_
                  have hPc := hP.sub (ws' := [(xa, .inr (11, [.ref x0, .int (nI x1), .ref x2, .int (nI x3), .ref x4, .ref x5, .ref x6, .int x7, .ref x8, .int x9, .int x10]))]) [0] rfl
                  have hDc := hD.sub (ws' := [(xa, .inr (11, [.ref x0, .int (nI x1), .ref x2, .int (nI x3), .ref x4, .ref x5, .ref x6, .int x7, .ref x8, .int x9, .int x10]))]) [0] (by decide) rfl
                  have hKc := hK.sub (tys' := []) [] rfl
                  have hFc := va_free (wc := [(xa, .inr (11, [.ref x0, .int (nI x1), .ref x2, .int (nI x3), .ref x4, .ref x5, .ref x6, .int x7, .ref x8, .int x9, .int x10]))]) hD hS hA [0] rfl
                  refine va_calli (va_runV (As := [.int 9]) (rest := []) ⟨hx, hb, hml, hown, hg⟩ (k_refuse l D H_58.size xa x0 (nI x1) x2 (nI x3) x4 x5 x6 x7 x8 x9 x10 9) (cwV 1 hg (gV wd_344 wd_345 wd_346 wd_3 wd_347) rfl rfl rfl (by decide +kernel) ⟨(Nat.le_trans (Nat.le_of_ble_eq_true rfl) hRf), (Nat.le_trans (Nat.le_of_ble_eq_true rfl) hRl)⟩) ⟨Pr.blind, va_recv hK hP (ci := 11) (q0 := 0) rfl rfl, fun U hU hW => ⟨rfl, Pr.at hPc hKc hDc hN hU hW⟩⟩ rfl rfl hl.1 rfl (lv_room (Nat.le_of_ble_eq_true rfl)) dX11_join_146 ⟨(Nat.le_trans (Nat.le_of_ble_eq_true rfl) hRc), (Nat.le_trans (Nat.le_of_ble_eq_true rfl) hRs)⟩) hS (fun q _ h => hFc q h) hFc (fun r_88 M_89 t H_87 locs ht hvm hw hB hz1 hk1 hS => ?_)
                  have hp_90 := hw
                  obtain ⟨hP1, hK1, hD1⟩ := hB
                  rw [ht] at hP1
                  obtain ⟨hP, hD⟩ := va_joinQ (X := [(xa, .inr (11, [.ref x0, .int (nI x1), .ref x2, .int (nI x3), .ref x4, .ref x5, .ref x6, .int x7, .ref x8, .int x9, .int x10]))]) (cx := [(xa, .inr (11, [.ref x0, .int (nI x1), .ref x2, .int (nI x3), .ref x4, .ref x5, .ref x6, .int x7, .ref x8, .int x9, .int x10]))]) (wr := []) (w1 := [(xa, .inr (11, [.ref x0, .int (nI x1), .ref x2, .int (nI x3), .ref x4, .ref x5, .ref x6, .int x7, .ref x8, .int 9, .int (-1)]))]) (pl := va_pl L M_4) hP hD [0] [] rfl rfl (by decide) (by decide) hk1 hFc hP1 hD1
                  have hP : va_P D vwCl ([(xa, .inr (11, [.ref x0, .int (nI x1), .ref x2, .int (nI x3), .ref x4, .ref x5, .ref x6, .int x7, .ref x8, .int 9, .int (-1)]))] ++ va_pl L M_4) H_87 := hP
                  have hD : va_D A ([(xa, .inr (11, [.ref x0, .int (nI x1), .ref x2, .int (nI x3), .ref x4, .ref x5, .ref x6, .int x7, .ref x8, .int 9, .int (-1)]))] ++ va_pl L M_4) := hD
                  have hq := Eq.symm hp_90
                  subst hq
                  refine W.widen (k := 1) (n := 16) (Nat.le_of_ble_eq_true rfl) (Nat.le_of_ble_eq_true rfl) ?_
                  rw [hQ]
                  exact W.iret (v := (-1)) hx hb hr (fun t ht hW9 => ⟨⟨(-1), (K, L, M_4), rfl, ⟨hX0, hW, hF, hT2, trivial⟩, ⟨9, (-1), by rw [ht]; exact hP, hD⟩⟩, hS.F ht⟩) hS.2.2 dX11_join_149
              · have hb_91 := h63_3 b_64 rfl
                refine lv_ifnull hx hb dX11_join_92 ?_
                refine lv_aload_n hx hb dX11_join_95 rfl (lv_at hl 2 rfl) ?_
                refine va_get (D := D) (ci := 11) (v := .ref x5) (C := RX11) (T := TX11) (N := 11) hx hb hg inG11 hown hK hP 0 rfl rfl 5 (by decide) (hg _ wd_371) (fun _ h9 => h9) rfl dX11_join_96 ?_
                refine lv_aload_n hx hb dX11_join_99 rfl (lv_at hl 2 rfl) ?_
                refine va_get (D := D) (ci := 11) (v := .ref x0) (C := RX11) (T := TX11) (N := 11) hx hb hg inG11 hown hK hP 0 rfl rfl 0 (by decide) (hg _ wd_337) (fun _ h9 => h9) rfl dX11_join_100 ?_
                refine lv_aload_n hx hb dX11_join_103 rfl (lv_at hl 2 rfl) ?_
                refine va_get (D := D) (ci := 11) (v := .int (nI x1)) (C := RX11) (T := TX11) (N := 11) hx hb hg inG11 hown hK hP 0 rfl rfl 1 (by decide) (hg _ wd_336) (fun _ h9 => h9) rfl dX11_join_104 ?_
                refine lv_aload hx hb dX11_join_107 (lv_at hl 1 rfl) ?_
                refine pg_get (D := D) (ci := 2) (v := .int v43_0) (C := RX2) (T := TX2) (N := 20) hx hb hg inG2 hown hK hP hb_25.1 hM43 rfl 0 (by decide) (hg _ wd_566) (fun _ h9 => h9) rfl dX11_join_109 ?_
                refine lv_aload hx hb dX11_join_112 (lv_at hl 0 rfl) ?_
                refine pg_get (D := D) (ci := 4) (v := va_rf (some b_64)) (C := RX4) (T := TX4) (N := 4) hx hb hg inG4 hown hK hP hb_35.1 hM63 rfl 3 (by decide) (hg _ wd_561) (fun _ h9 => h9) rfl dX11_join_114 ?_
                obtain ⟨v92_0, v92_1, v92_2, v92_3, v92_4, v92_5, v92_6, v92_7, v92_8, v92_9, v92_10, v92_11, v92_12, v92_13, v92_14, v92_15, v92_16, v92_17, v92_18, v92_19, hM92, h92_3, h92_4, h92_5, h92_6, h92_7, h92_8, h92_9, h92_10, h92_11, h92_12, h92_13, h92_16, h92_17, h92_18, h92_19⟩ := hW.open_2 hb_91
                refine pg_get (D := D) (ci := 2) (v := .int v92_0) (C := RX2) (T := TX2) (N := 20) hx hb hg inG2 hown hK hP hb_91.1 hM92 rfl 0 (by decide) (hg _ wd_566) (fun _ h9 => h9) rfl dX11_join_117 ?_
                obtain ⟨v93_0, v93_1, v93_2, hM93, h93_0, h93_1⟩ := hW.open_5 i5
                have hPc : va_P D vwCl ([] ++ va_pl L M_4) H_58 := hP.part (cx := []) [] rfl
                have hDc : va_D A ([] ++ va_pl L M_4) := hD.part (cx := []) [] (by decide) rfl
                have hFc : ∀ q, va_A ([] ++ va_pl L M_4) H_58.size q → A q := pg_free hDc hS hA
                refine va_calli (va_runV (As := [.ref x0, .int (nI x1), .int v43_0, .int v92_0]) (rest := []) ⟨hx, hb, hml, hown, hg⟩ (s_X5_trace l D cy K L M_4 H_58.size x5 x0 (nI x1) v43_0 v92_0  hW i5 i0) (cwV 4 hg (gV wd_567 wd_568 wd_569 wd_309 wd_570) rfl rfl rfl (by decide +kernel) ⟨(Nat.le_trans (Nat.le_of_ble_eq_true rfl) hRf), (Nat.le_trans (Nat.le_of_ble_eq_true rfl) hRl)⟩) ⟨PG.blind, pg_recv hK hP i5.1 hM93 rfl, fun U hU hW => ⟨rfl, PG.at hPc hK hDc hN hU hW⟩⟩ rfl rfl hl.1 rfl (lv_room (Nat.le_of_ble_eq_true rfl)) dX11_join_120 ⟨(Nat.le_trans (Nat.le_of_ble_eq_true rfl) hRc), (Nat.le_trans (Nat.le_of_ble_eq_true rfl) hRs)⟩) hS (fun q _ h => hFc q h) hFc (fun r_95 M_96 t H_94 locs ht hvm hw hB hz1 hk1 hS => ?_)
                obtain ⟨hW, hF2, hp_97⟩ := hw
                obtain ⟨hP1, hD1⟩ := hB
                rw [ht] at hP1
                obtain ⟨hP, hD⟩ := va_joinP (X := [(xa, .inr (11, [.ref x0, .int (nI x1), .ref x2, .int (nI x3), .ref x4, .ref x5, .ref x6, .int x7, .ref x8, .int x9, .int x10]))]) (cx := []) (wr := [(xa, .inr (11, [.ref x0, .int (nI x1), .ref x2, .int (nI x3), .ref x4, .ref x5, .ref x6, .int x7, .ref x8, .int x9, .int x10]))]) (rx := []) (pl := va_pl L M_4) (pl1 := va_pl L M_96) hP hD [] [0] rfl rfl (by decide) (by decide) hk1 hFc hP1 hD1
                have hP : va_P D vwCl ([(xa, .inr (11, [.ref x0, .int (nI x1), .ref x2, .int (nI x3), .ref x4, .ref x5, .ref x6, .int x7, .ref x8, .int x9, .int x10]))] ++ va_pl L M_96) H_94 := hP
                have hD : va_D A ([(xa, .inr (11, [.ref x0, .int (nI x1), .ref x2, .int (nI x3), .ref x4, .ref x5, .ref x6, .int x7, .ref x8, .int x9, .int x10]))] ++ va_pl L M_96) := hD
                have hM_98 : M_96 b_10 = .inr (2, [.int v43_0, .int v43_1, .int v43_2, .ref v43_3, .int (nI v43_4), .int (nI v43_5), .ref v43_6, .ref v43_7, .ref v43_8, .int (nI v43_9), .ref v43_10, .int (nI v43_11), .ref v43_12, .ref v43_13, .long v43_14, .int v43_15, .ref v43_16, .ref v43_17, .ref v43_18, .ref v43_19]) := (hF2.at hb_25 (by decide)).trans hM43
                have hM_99 : M_96 v43_6 = .inl (cy 14, 6, .inl (f51)) := (hF2.at h43_6 (by decide)).trans hM51
                have hM_100 : M_96 b_30 = .inr (4, [.int v63_0, .int v63_1, .int v63_2, va_rf (some b_64)]) := (hF2.at hb_35 (by decide)).trans hM63
                have hM_101 : M_96 b_64 = .inr (2, [.int v92_0, .int v92_1, .int v92_2, .ref v92_3, .int (nI v92_4), .int (nI v92_5), .ref v92_6, .ref v92_7, .ref v92_8, .int (nI v92_9), .ref v92_10, .int (nI v92_11), .ref v92_12, .ref v92_13, .long v92_14, .int v92_15, .ref v92_16, .ref v92_17, .ref v92_18, .ref v92_19]) := (hF2.at hb_91 (by decide)).trans hM92
                have hF : fr K0 L0 [2, 5, 58, 59, 61, 62] M0 M_96 := hF.trX hX0 hF2 (by decide)
                have hT2 : fT 2 K0 L0 [9, 15] M0 M_96 := hT2.frrX hX0 hF2 (by decide)
                rcases hp_97 with rfl | rfl
                · have hz := rfl (a := 0)
                  refine lv_if_eq (tgt := 133) hx hb dX11_join_123 (by decide) (fun c_102 => absurd c_102 (by decide)) (fun _ => ?_)
                  refine lv_aload_n hx hb dX11_join_126 rfl (lv_at hl 2 rfl) ?_
                  refine lv_bipush (v := 8) hx hb dX11_join_127 (by decide) ?_
                  have hPc := hP.sub (ws' := [(xa, .inr (11, [.ref x0, .int (nI x1), .ref x2, .int (nI x3), .ref x4, .ref x5, .ref x6, .int x7, .ref x8, .int x9, .int x10]))]) [0] rfl
                  have hDc := hD.sub (ws' := [(xa, .inr (11, [.ref x0, .int (nI x1), .ref x2, .int (nI x3), .ref x4, .ref x5, .ref x6, .int x7, .ref x8, .int x9, .int x10]))]) [0] (by decide) rfl
                  have hKc := hK.sub (tys' := []) [] rfl
                  have hFc := va_free (wc := [(xa, .inr (11, [.ref x0, .int (nI x1), .ref x2, .int (nI x3), .ref x4, .ref x5, .ref x6, .int x7, .ref x8, .int x9, .int x10]))]) hD hS hA [0] rfl
                  refine va_calli (va_runV (As := [.int 8]) (rest := []) ⟨hx, hb, hml, hown, hg⟩ (k_refuse l D H_94.size xa x0 (nI x1) x2 (nI x3) x4 x5 x6 x7 x8 x9 x10 8) (cwV 1 hg (gV wd_344 wd_345 wd_346 wd_3 wd_347) rfl rfl rfl (by decide +kernel) ⟨(Nat.le_trans (Nat.le_of_ble_eq_true rfl) hRf), (Nat.le_trans (Nat.le_of_ble_eq_true rfl) hRl)⟩) ⟨Pr.blind, va_recv hK hP (ci := 11) (q0 := 0) rfl rfl, fun U hU hW => ⟨rfl, Pr.at hPc hKc hDc hN hU hW⟩⟩ rfl rfl hl.1 rfl (lv_room (Nat.le_of_ble_eq_true rfl)) dX11_join_129 ⟨(Nat.le_trans (Nat.le_of_ble_eq_true rfl) hRc), (Nat.le_trans (Nat.le_of_ble_eq_true rfl) hRs)⟩) hS (fun q _ h => hFc q h) hFc (fun r_104 M_105 t H_103 locs ht hvm hw hB hz1 hk1 hS => ?_)
                  have hp_106 := hw
                  obtain ⟨hP1, hK1, hD1⟩ := hB
                  rw [ht] at hP1
                  obtain ⟨hP, hD⟩ := va_joinQ (X := [(xa, .inr (11, [.ref x0, .int (nI x1), .ref x2, .int (nI x3), .ref x4, .ref x5, .ref x6, .int x7, .ref x8, .int x9, .int x10]))]) (cx := [(xa, .inr (11, [.ref x0, .int (nI x1), .ref x2, .int (nI x3), .ref x4, .ref x5, .ref x6, .int x7, .ref x8, .int x9, .int x10]))]) (wr := []) (w1 := [(xa, .inr (11, [.ref x0, .int (nI x1), .ref x2, .int (nI x3), .ref x4, .ref x5, .ref x6, .int x7, .ref x8, .int 8, .int (-1)]))]) (pl := va_pl L M_96) hP hD [0] [] rfl rfl (by decide) (by decide) hk1 hFc hP1 hD1
                  have hP : va_P D vwCl ([(xa, .inr (11, [.ref x0, .int (nI x1), .ref x2, .int (nI x3), .ref x4, .ref x5, .ref x6, .int x7, .ref x8, .int 8, .int (-1)]))] ++ va_pl L M_96) H_103 := hP
                  have hD : va_D A ([(xa, .inr (11, [.ref x0, .int (nI x1), .ref x2, .int (nI x3), .ref x4, .ref x5, .ref x6, .int x7, .ref x8, .int 8, .int (-1)]))] ++ va_pl L M_96) := hD
                  have hq := Eq.symm hp_106
                  subst hq
                  refine W.widen (k := 1) (n := 16) (Nat.le_of_ble_eq_true rfl) (Nat.le_of_ble_eq_true rfl) ?_
                  rw [hQ]
                  exact W.iret (v := (-1)) hx hb hr (fun t ht hW9 => ⟨⟨(-1), (K, L, M_96), rfl, ⟨hX0, hW, hF, hT2, trivial⟩, ⟨8, (-1), by rw [ht]; exact hP, hD⟩⟩, hS.F ht⟩) hS.2.2 dX11_join_132
                · have hz := rfl (a := 0)
                  refine lv_if_eq (tgt := 133) hx hb dX11_join_123 (by decide) (fun _ => ?_) (fun c_107 => absurd c_107 (by decide))
                  refine lv_aload hx hb dX11_join_133 (lv_at hl 1 rfl) ?_
                  refine pg_get (D := D) (ci := 2) (v := .int (nI v43_9)) (C := RX2) (T := TX2) (N := 20) hx hb hg inG2 hown hK hP hb_25.1 hM_98 rfl 9 (by decide) (hg _ wd_465) (fun _ h9 => h9) rfl dX11_join_135 ?_
                  refine lv_bipush (v := 24) hx hb dX11_join_138 (by decide) ?_
                  refine lv_icmp_lt (tgt := 150) hx hb dX11_join_140 (by decide) (fun c_108 => ?_) (fun c_108 => ?_)
                  · have hz := rfl (a := 0)
                    have n_109 : v43_9 < 24 := (iLT (a := v43_9) (b := 24) (by omega) (by omega)).mp c_108
                    refine lv_aload_n hx hb dX11_join_150 rfl (lv_at hl 2 rfl) ?_
                    refine lv_aload hx hb dX11_join_151 (lv_at hl 1 rfl) ?_
                    refine lv_aload hx hb dX11_join_153 (lv_at hl 0 rfl) ?_
                    refine lv_iload_n hx hb dX11_join_155 rfl (lv_at hl 4 rfl) ?_
                    refine lv_iload hx hb dX11_join_156 (lv_at hl 6 rfl) ?_
                    refine lv_iload hx hb dX11_join_158 (lv_at hl 7 rfl) ?_
                    have hPc : va_P D vwCl ([] ++ va_pl L M_96) H_94 := hP.part (cx := []) [] rfl
                    have hDc : va_D A ([] ++ va_pl L M_96) := hD.part (cx := []) [] (by decide) rfl
                    have hFc : ∀ q, va_A ([] ++ va_pl L M_96) H_94.size q → A q := pg_free hDc hS hA
                    refine va_calli (va_runV (As := [.ref b_30, .int k2, .int k4, .int 1]) (rest := [.ref xa]) ⟨hx, hb, hml, hown, hg⟩ (s_addTenure_1 l D cy K L M_96 H_94.size b_10 b_30 k2 k4  hW hb_25 hb_35) (cwV 4 hg (gV wd_562 wd_563 wd_564 wd_57 wd_565) rfl rfl rfl (by decide +kernel) ⟨(Nat.le_trans (Nat.le_of_ble_eq_true rfl) hRf), (Nat.le_trans (Nat.le_of_ble_eq_true rfl) hRl)⟩) ⟨PG.blind, pg_recv hK hP hb_25.1 hM_98 rfl, fun U hU hW => ⟨rfl, PG.at hPc hK hDc hN hU hW⟩⟩ rfl rfl hl.1 rfl (lv_room (Nat.le_of_ble_eq_true rfl)) dX11_join_160 ⟨(Nat.le_trans (Nat.le_of_ble_eq_true rfl) hRc), (Nat.le_trans (Nat.le_of_ble_eq_true rfl) hRs)⟩) hS (fun q _ h => hFc q h) hFc (fun r_111 M_112 t H_110 locs ht hvm hw hB hz1 hk1 hS => ?_)
                    obtain ⟨K9, L9, M_112m⟩ := M_112
                    dsimp only at hw hB
                    obtain ⟨hx9, hW, hF2, gT2, hp_113⟩ := hw
                    obtain ⟨hP1, hD1⟩ := hB
                    rw [ht] at hP1
                    obtain ⟨hP, hD⟩ := va_joinP (X := [(xa, .inr (11, [.ref x0, .int (nI x1), .ref x2, .int (nI x3), .ref x4, .ref x5, .ref x6, .int x7, .ref x8, .int x9, .int x10]))]) (cx := []) (wr := [(xa, .inr (11, [.ref x0, .int (nI x1), .ref x2, .int (nI x3), .ref x4, .ref x5, .ref x6, .int x7, .ref x8, .int x9, .int x10]))]) (rx := []) (pl := va_pl L M_96) (pl1 := va_pl L9 M_112m) hP hD [] [0] rfl rfl (by decide) (by decide) hk1 hFc hP1 hD1
                    have hP : va_P D vwCl ([(xa, .inr (11, [.ref x0, .int (nI x1), .ref x2, .int (nI x3), .ref x4, .ref x5, .ref x6, .int x7, .ref x8, .int x9, .int x10]))] ++ va_pl L9 M_112m) H_110 := hP
                    have hD : va_D A ([(xa, .inr (11, [.ref x0, .int (nI x1), .ref x2, .int (nI x3), .ref x4, .ref x5, .ref x6, .int x7, .ref x8, .int x9, .int x10]))] ++ va_pl L9 M_112m) := hD
                    have hM_114 : M_112m v43_6 = .inl (cy 14, 6, .inl (f51)) := (hF2.at h43_6 (by decide)).trans hM_99
                    have hM_115 : M_112m b_30 = .inr (4, [.int v63_0, .int v63_1, .int v63_2, va_rf (some b_64)]) := (hF2.at hb_35 (by decide)).trans hM_100
                    have hF : fr K0 L0 [2, 5, 58, 59, 61, 62] M0 M_112m := hF.trX hX0 hF2 (by decide)
                    have hT2 : fT 2 K0 L0 [9, 15] M0 M_112m := hT2.trX hX0 gT2 (by decide)
                    have hX0 := hX0.tr hx9
                    have i_116 := i0.ext hx9
                    have i_117 := i2.ext hx9
                    have i_118 := i4.ext hx9
                    have i_119 := i5.ext hx9
                    have i_120 := i6.ext hx9
                    have i_121 := i8.ext hx9
                    have i_122 := hb_25.ext hx9
                    have i_123 := hb_35.ext hx9
                    have i_124 := h43_6.ext hx9
                    have i_125 := hb_91.ext hx9
                    obtain ⟨K, L, hK9, hL9⟩ : ∃ (K : Kp) (L : List Nat), K = K9 ∧ L = L9 := ⟨_, _, rfl, rfl⟩
                    subst hK9
                    subst hL9
                    refine W.widen (k := 1) (n := 16) (Nat.le_of_ble_eq_true rfl) (Nat.le_of_ble_eq_true rfl) ?_
                    have hPc := hP.sub (ws' := [(xa, .inr (11, [.ref x0, .int (nI x1), .ref x2, .int (nI x3), .ref x4, .ref x5, .ref x6, .int x7, .ref x8, .int x9, .int x10]))]) [0] rfl
                    have hDc := hD.sub (ws' := [(xa, .inr (11, [.ref x0, .int (nI x1), .ref x2, .int (nI x3), .ref x4, .ref x5, .ref x6, .int x7, .ref x8, .int x9, .int x10]))]) [0] (by decide) rfl
                    have hKc := hK.sub (tys' := []) [] rfl
                    have hFc := va_free (wc := [(xa, .inr (11, [.ref x0, .int (nI x1), .ref x2, .int (nI x3), .ref x4, .ref x5, .ref x6, .int x7, .ref x8, .int x9, .int x10]))]) hD hS hA [0] rfl
                    refine va_calli (va_runV (As := [.int r_111]) (rest := []) ⟨hx, hb, hml, hown, hg⟩ (k_accept l D H_110.size xa x0 (nI x1) x2 (nI x3) x4 x5 x6 x7 x8 x9 x10 r_111) (cwV 1 hg (gV wd_356 wd_357 wd_358 wd_3 wd_359) rfl rfl rfl (by decide +kernel) ⟨(Nat.le_trans (Nat.le_of_ble_eq_true rfl) hRf), (Nat.le_trans (Nat.le_of_ble_eq_true rfl) hRl)⟩) ⟨Pr.blind, va_recv hK hP (ci := 11) (q0 := 0) rfl rfl, fun U hU hW => ⟨rfl, Pr.at hPc hKc hDc hN hU hW⟩⟩ rfl rfl hl.1 rfl (lv_room (Nat.le_of_ble_eq_true rfl)) dX11_join_163 ⟨(Nat.le_trans (Nat.le_of_ble_eq_true rfl) hRc), (Nat.le_trans (Nat.le_of_ble_eq_true rfl) hRs)⟩) hS (fun q _ h => hFc q h) hFc (fun r_127 M_128 t H_126 locs ht hvm hw hB hz1 hk1 hS => ?_)
                    have hp_129 := hw
                    obtain ⟨hP1, hK1, hD1⟩ := hB
                    rw [ht] at hP1
                    obtain ⟨hP, hD⟩ := va_joinQ (X := [(xa, .inr (11, [.ref x0, .int (nI x1), .ref x2, .int (nI x3), .ref x4, .ref x5, .ref x6, .int x7, .ref x8, .int x9, .int x10]))]) (cx := [(xa, .inr (11, [.ref x0, .int (nI x1), .ref x2, .int (nI x3), .ref x4, .ref x5, .ref x6, .int x7, .ref x8, .int x9, .int x10]))]) (wr := []) (w1 := [(xa, .inr (11, [.ref x0, .int (nI x1), .ref x2, .int (nI x3), .ref x4, .ref x5, .ref x6, .int x7, .ref x8, .int 0, .int (-1)]))]) (pl := va_pl L M_112m) hP hD [0] [] rfl rfl (by decide) (by decide) hk1 hFc hP1 hD1
                    have hP : va_P D vwCl ([(xa, .inr (11, [.ref x0, .int (nI x1), .ref x2, .int (nI x3), .ref x4, .ref x5, .ref x6, .int x7, .ref x8, .int 0, .int (-1)]))] ++ va_pl L M_112m) H_126 := hP
                    have hD : va_D A ([(xa, .inr (11, [.ref x0, .int (nI x1), .ref x2, .int (nI x3), .ref x4, .ref x5, .ref x6, .int x7, .ref x8, .int 0, .int (-1)]))] ++ va_pl L M_112m) := hD
                    have hq := Eq.symm hp_129
                    subst hq
                    rw [hQ]
                    exact W.iret (v := r_111) hx hb hr (fun t ht hW9 => ⟨⟨r_111, (K, L, M_112m), rfl, ⟨hX0, hW, hF, hT2, trivial⟩, ⟨0, (-1), by rw [ht]; exact hP, hD⟩⟩, hS.F ht⟩) hS.2.2 dX11_join_166
                  · have hz := rfl (a := 0)
                    have n_130 : ¬ (v43_9 < 24) := fun q => c_108 ((iLT (a := v43_9) (b := 24) (by omega) (by omega)).mpr q)
                    refine lv_aload_n hx hb dX11_join_143 rfl (lv_at hl 2 rfl) ?_
                    refine lv_bipush (v := 9) hx hb dX11_join_144 (by decide) ?_
                    have hPc := hP.sub (ws' := [(xa, .inr (11, [.ref x0, .int (nI x1), .ref x2, .int (nI x3), .ref x4, .ref x5, .ref x6, .int x7, .ref x8, .int x9, .int x10]))]) [0] rfl
                    have hDc := hD.sub (ws' := [(xa, .inr (11, [.ref x0, .int (nI x1), .ref x2, .int (nI x3), .ref x4, .ref x5, .ref x6, .int x7, .ref x8, .int x9, .int x10]))]) [0] (by decide) rfl
                    have hKc := hK.sub (tys' := []) [] rfl
                    have hFc := va_free (wc := [(xa, .inr (11, [.ref x0, .int (nI x1), .ref x2, .int (nI x3), .ref x4, .ref x5, .ref x6, .int x7, .ref x8, .int x9, .int x10]))]) hD hS hA [0] rfl
                    refine va_calli (va_runV (As := [.int 9]) (rest := []) ⟨hx, hb, hml, hown, hg⟩ (k_refuse l D H_94.size xa x0 (nI x1) x2 (nI x3) x4 x5 x6 x7 x8 x9 x10 9) (cwV 1 hg (gV wd_344 wd_345 wd_346 wd_3 wd_347) rfl rfl rfl (by decide +kernel) ⟨(Nat.le_trans (Nat.le_of_ble_eq_true rfl) hRf), (Nat.le_trans (Nat.le_of_ble_eq_true rfl) hRl)⟩) ⟨Pr.blind, va_recv hK hP (ci := 11) (q0 := 0) rfl rfl, fun U hU hW => ⟨rfl, Pr.at hPc hKc hDc hN hU hW⟩⟩ rfl rfl hl.1 rfl (lv_room (Nat.le_of_ble_eq_true rfl)) dX11_join_146 ⟨(Nat.le_trans (Nat.le_of_ble_eq_true rfl) hRc), (Nat.le_trans (Nat.le_of_ble_eq_true rfl) hRs)⟩) hS (fun q _ h => hFc q h) hFc (fun r_132 M_133 t H_131 locs ht hvm hw hB hz1 hk1 hS => ?_)
                    have hp_134 := hw
                    obtain ⟨hP1, hK1, hD1⟩ := hB
                    rw [ht] at hP1
                    obtain ⟨hP, hD⟩ := va_joinQ (X := [(xa, .inr (11, [.ref x0, .int (nI x1), .ref x2, .int (nI x3), .ref x4, .ref x5, .ref x6, .int x7, .ref x8, .int x9, .int x10]))]) (cx := [(xa, .inr (11, [.ref x0, .int (nI x1), .ref x2, .int (nI x3), .ref x4, .ref x5, .ref x6, .int x7, .ref x8, .int x9, .int x10]))]) (wr := []) (w1 := [(xa, .inr (11, [.ref x0, .int (nI x1), .ref x2, .int (nI x3), .ref x4, .ref x5, .ref x6, .int x7, .ref x8, .int 9, .int (-1)]))]) (pl := va_pl L M_96) hP hD [0] [] rfl rfl (by decide) (by decide) hk1 hFc hP1 hD1
                    have hP : va_P D vwCl ([(xa, .inr (11, [.ref x0, .int (nI x1), .ref x2, .int (nI x3), .ref x4, .ref x5, .ref x6, .int x7, .ref x8, .int 9, .int (-1)]))] ++ va_pl L M_96) H_131 := hP
                    have hD : va_D A ([(xa, .inr (11, [.ref x0, .int (nI x1), .ref x2, .int (nI x3), .ref x4, .ref x5, .ref x6, .int x7, .ref x8, .int 9, .int (-1)]))] ++ va_pl L M_96) := hD
                    have hq := Eq.symm hp_134
                    subst hq
                    refine W.widen (k := 1) (n := 16) (Nat.le_of_ble_eq_true rfl) (Nat.le_of_ble_eq_true rfl) ?_
                    rw [hQ]
                    exact W.iret (v := (-1)) hx hb hr (fun t ht hW9 => ⟨⟨(-1), (K, L, M_96), rfl, ⟨hX0, hW, hF, hT2, trivial⟩, ⟨9, (-1), by rw [ht]; exact hP, hD⟩⟩, hS.F ht⟩) hS.2.2 dX11_join_149
            · have hz := rfl (a := 0)
              refine lv_if_ne (tgt := 87) hx hb dX11_join_78 (by decide) (fun c_135 => absurd c_135 (by decide)) (fun _ => ?_)
              refine lv_aload_n hx hb dX11_join_81 rfl (lv_at hl 2 rfl) ?_
              refine lv_iconst (v := 4) hx hb dX11_join_82 (by decide) ?_
              have hPc := hP.sub (ws' := [(xa, .inr (11, [.ref x0, .int (nI x1), .ref x2, .int (nI x3), .ref x4, .ref x5, .ref x6, .int x7, .ref x8, .int x9, .int x10]))]) [0] rfl
              have hDc := hD.sub (ws' := [(xa, .inr (11, [.ref x0, .int (nI x1), .ref x2, .int (nI x3), .ref x4, .ref x5, .ref x6, .int x7, .ref x8, .int x9, .int x10]))]) [0] (by decide) rfl
              have hKc := hK.sub (tys' := []) [] rfl
              have hFc := va_free (wc := [(xa, .inr (11, [.ref x0, .int (nI x1), .ref x2, .int (nI x3), .ref x4, .ref x5, .ref x6, .int x7, .ref x8, .int x9, .int x10]))]) hD hS hA [0] rfl
              refine va_calli (va_runV (As := [.int 4]) (rest := []) ⟨hx, hb, hml, hown, hg⟩ (k_refuse l D H_58.size xa x0 (nI x1) x2 (nI x3) x4 x5 x6 x7 x8 x9 x10 4) (cwV 1 hg (gV wd_344 wd_345 wd_346 wd_3 wd_347) rfl rfl rfl (by decide +kernel) ⟨(Nat.le_trans (Nat.le_of_ble_eq_true rfl) hRf), (Nat.le_trans (Nat.le_of_ble_eq_true rfl) hRl)⟩) ⟨Pr.blind, va_recv hK hP (ci := 11) (q0 := 0) rfl rfl, fun U hU hW => ⟨rfl, Pr.at hPc hKc hDc hN hU hW⟩⟩ rfl rfl hl.1 rfl (lv_room (Nat.le_of_ble_eq_true rfl)) dX11_join_83 ⟨(Nat.le_trans (Nat.le_of_ble_eq_true rfl) hRc), (Nat.le_trans (Nat.le_of_ble_eq_true rfl) hRs)⟩) hS (fun q _ h => hFc q h) hFc (fun r_137 M_138 t H_136 locs ht hvm hw hB hz1 hk1 hS => ?_)
              have hp_139 := hw
              obtain ⟨hP1, hK1, hD1⟩ := hB
              rw [ht] at hP1
              obtain ⟨hP, hD⟩ := va_joinQ (X := [(xa, .inr (11, [.ref x0, .int (nI x1), .ref x2, .int (nI x3), .ref x4, .ref x5, .ref x6, .int x7, .ref x8, .int x9, .int x10]))]) (cx := [(xa, .inr (11, [.ref x0, .int (nI x1), .ref x2, .int (nI x3), .ref x4, .ref x5, .ref x6, .int x7, .ref x8, .int x9, .int x10]))]) (wr := []) (w1 := [(xa, .inr (11, [.ref x0, .int (nI x1), .ref x2, .int (nI x3), .ref x4, .ref x5, .ref x6, .int x7, .ref x8, .int 4, .int (-1)]))]) (pl := va_pl L M_4) hP hD [0] [] rfl rfl (by decide) (by decide) hk1 hFc hP1 hD1
              have hP : va_P D vwCl ([(xa, .inr (11, [.ref x0, .int (nI x1), .ref x2, .int (nI x3), .ref x4, .ref x5, .ref x6, .int x7, .ref x8, .int 4, .int (-1)]))] ++ va_pl L M_4) H_136 := hP
              have hD : va_D A ([(xa, .inr (11, [.ref x0, .int (nI x1), .ref x2, .int (nI x3), .ref x4, .ref x5, .ref x6, .int x7, .ref x8, .int 4, .int (-1)]))] ++ va_pl L M_4) := hD
              have hq := Eq.symm hp_139
              subst hq
              refine W.widen (k := 1) (n := 16) (Nat.le_of_ble_eq_true rfl) (Nat.le_of_ble_eq_true rfl) ?_
              rw [hQ]
              exact W.iret (v := (-1)) hx hb hr (fun t ht hW9 => ⟨⟨(-1), (K, L, M_4), rfl, ⟨hX0, hW, hF, hT2, trivial⟩, ⟨4, (-1), by rw [ht]; exact hP, hD⟩⟩, hS.F ht⟩) hS.2.2 dX11_join_86
        · have hz := rfl (a := 0)
          refine lv_if_ne (tgt := 60) hx hb dX11_join_51 (by decide) (fun c_140 => absurd c_140 (by decide)) (fun _ => ?_)
          refine lv_aload_n hx hb dX11_join_54 rfl (lv_at hl 2 rfl) ?_
          refine lv_iconst (v := 3) hx hb dX11_join_55 (by decide) ?_
          have hPc := hP.sub (ws' := [(xa, .inr (11, [.ref x0, .int (nI x1), .ref x2, .int (nI x3), .ref x4, .ref x5, .ref x6, .int x7, .ref x8, .int x9, .int x10]))]) [0] rfl
          have hDc := hD.sub (ws' := [(xa, .inr (11, [.ref x0, .int (nI x1), .ref x2, .int (nI x3), .ref x4, .ref x5, .ref x6, .int x7, .ref x8, .int x9, .int x10]))]) [0] (by decide) rfl
          have hKc := hK.sub (tys' := []) [] rfl
          have hFc := va_free (wc := [(xa, .inr (11, [.ref x0, .int (nI x1), .ref x2, .int (nI x3), .ref x4, .ref x5, .ref x6, .int x7, .ref x8, .int x9, .int x10]))]) hD hS hA [0] rfl
          refine va_calli (va_runV (As := [.int 3]) (rest := []) ⟨hx, hb, hml, hown, hg⟩ (k_refuse l D H_44.size xa x0 (nI x1) x2 (nI x3) x4 x5 x6 x7 x8 x9 x10 3) (cwV 1 hg (gV wd_344 wd_345 wd_346 wd_3 wd_347) rfl rfl rfl (by decide +kernel) ⟨(Nat.le_trans (Nat.le_of_ble_eq_true rfl) hRf), (Nat.le_trans (Nat.le_of_ble_eq_true rfl) hRl)⟩) ⟨Pr.blind, va_recv hK hP (ci := 11) (q0 := 0) rfl rfl, fun U hU hW => ⟨rfl, Pr.at hPc hKc hDc hN hU hW⟩⟩ rfl rfl hl.1 rfl (lv_room (Nat.le_of_ble_eq_true rfl)) dX11_join_56 ⟨(Nat.le_trans (Nat.le_of_ble_eq_true rfl) hRc), (Nat.le_trans (Nat.le_of_ble_eq_true rfl) hRs)⟩) hS (fun q _ h => hFc q h) hFc (fun r_142 M_143 t H_141 locs ht hvm hw hB hz1 hk1 hS => ?_)
          have hp_144 := hw
          obtain ⟨hP1, hK1, hD1⟩ := hB
          rw [ht] at hP1
          obtain ⟨hP, hD⟩ := va_joinQ (X := [(xa, .inr (11, [.ref x0, .int (nI x1), .ref x2, .int (nI x3), .ref x4, .ref x5, .ref x6, .int x7, .ref x8, .int x9, .int x10]))]) (cx := [(xa, .inr (11, [.ref x0, .int (nI x1), .ref x2, .int (nI x3), .ref x4, .ref x5, .ref x6, .int x7, .ref x8, .int x9, .int x10]))]) (wr := []) (w1 := [(xa, .inr (11, [.ref x0, .int (nI x1), .ref x2, .int (nI x3), .ref x4, .ref x5, .ref x6, .int x7, .ref x8, .int 3, .int (-1)]))]) (pl := va_pl L M_4) hP hD [0] [] rfl rfl (by decide) (by decide) hk1 hFc hP1 hD1
          have hP : va_P D vwCl ([(xa, .inr (11, [.ref x0, .int (nI x1), .ref x2, .int (nI x3), .ref x4, .ref x5, .ref x6, .int x7, .ref x8, .int 3, .int (-1)]))] ++ va_pl L M_4) H_141 := hP
          have hD : va_D A ([(xa, .inr (11, [.ref x0, .int (nI x1), .ref x2, .int (nI x3), .ref x4, .ref x5, .ref x6, .int x7, .ref x8, .int 3, .int (-1)]))] ++ va_pl L M_4) := hD
          have hq := Eq.symm hp_144
          subst hq
          refine W.widen (k := 1) (n := 16) (Nat.le_of_ble_eq_true rfl) (Nat.le_of_ble_eq_true rfl) ?_
          rw [hQ]
          exact W.iret (v := (-1)) hx hb hr (fun t ht hW9 => ⟨⟨(-1), (K, L, M_4), rfl, ⟨hX0, hW, hF, hT2, trivial⟩, ⟨3, (-1), by rw [ht]; exact hP, hD⟩⟩, hS.F ht⟩) hS.2.2 dX11_join_59
      · have hz := rfl (a := 0)
        refine lv_if_ne (tgt := 44) hx hb dX11_join_35 (by decide) (fun c_145 => absurd c_145 (by decide)) (fun _ => ?_)
        refine lv_aload_n hx hb dX11_join_38 rfl (lv_at hl 2 rfl) ?_
        refine lv_iconst (v := 1) hx hb dX11_join_39 (by decide) ?_
        have hPc := hP.sub (ws' := [(xa, .inr (11, [.ref x0, .int (nI x1), .ref x2, .int (nI x3), .ref x4, .ref x5, .ref x6, .int x7, .ref x8, .int x9, .int x10]))]) [0] rfl
        have hDc := hD.sub (ws' := [(xa, .inr (11, [.ref x0, .int (nI x1), .ref x2, .int (nI x3), .ref x4, .ref x5, .ref x6, .int x7, .ref x8, .int x9, .int x10]))]) [0] (by decide) rfl
        have hKc := hK.sub (tys' := []) [] rfl
        have hFc := va_free (wc := [(xa, .inr (11, [.ref x0, .int (nI x1), .ref x2, .int (nI x3), .ref x4, .ref x5, .ref x6, .int x7, .ref x8, .int x9, .int x10]))]) hD hS hA [0] rfl
        refine va_calli (va_runV (As := [.int 1]) (rest := []) ⟨hx, hb, hml, hown, hg⟩ (k_refuse l D H_36.size xa x0 (nI x1) x2 (nI x3) x4 x5 x6 x7 x8 x9 x10 1) (cwV 1 hg (gV wd_344 wd_345 wd_346 wd_3 wd_347) rfl rfl rfl (by decide +kernel) ⟨(Nat.le_trans (Nat.le_of_ble_eq_true rfl) hRf), (Nat.le_trans (Nat.le_of_ble_eq_true rfl) hRl)⟩) ⟨Pr.blind, va_recv hK hP (ci := 11) (q0 := 0) rfl rfl, fun U hU hW => ⟨rfl, Pr.at hPc hKc hDc hN hU hW⟩⟩ rfl rfl hl.1 rfl (lv_room (Nat.le_of_ble_eq_true rfl)) dX11_join_40 ⟨(Nat.le_trans (Nat.le_of_ble_eq_true rfl) hRc), (Nat.le_trans (Nat.le_of_ble_eq_true rfl) hRs)⟩) hS (fun q _ h => hFc q h) hFc (fun r_147 M_148 t H_146 locs ht hvm hw hB hz1 hk1 hS => ?_)
        have hp_149 := hw
        obtain ⟨hP1, hK1, hD1⟩ := hB
        rw [ht] at hP1
        obtain ⟨hP, hD⟩ := va_joinQ (X := [(xa, .inr (11, [.ref x0, .int (nI x1), .ref x2, .int (nI x3), .ref x4, .ref x5, .ref x6, .int x7, .ref x8, .int x9, .int x10]))]) (cx := [(xa, .inr (11, [.ref x0, .int (nI x1), .ref x2, .int (nI x3), .ref x4, .ref x5, .ref x6, .int x7, .ref x8, .int x9, .int x10]))]) (wr := []) (w1 := [(xa, .inr (11, [.ref x0, .int (nI x1), .ref x2, .int (nI x3), .ref x4, .ref x5, .ref x6, .int x7, .ref x8, .int 1, .int (-1)]))]) (pl := va_pl L M_4) hP hD [0] [] rfl rfl (by decide) (by decide) hk1 hFc hP1 hD1
        have hP : va_P D vwCl ([(xa, .inr (11, [.ref x0, .int (nI x1), .ref x2, .int (nI x3), .ref x4, .ref x5, .ref x6, .int x7, .ref x8, .int 1, .int (-1)]))] ++ va_pl L M_4) H_146 := hP
        have hD : va_D A ([(xa, .inr (11, [.ref x0, .int (nI x1), .ref x2, .int (nI x3), .ref x4, .ref x5, .ref x6, .int x7, .ref x8, .int 1, .int (-1)]))] ++ va_pl L M_4) := hD
        have hq := Eq.symm hp_149
        subst hq
        refine W.widen (k := 1) (n := 16) (Nat.le_of_ble_eq_true rfl) (Nat.le_of_ble_eq_true rfl) ?_
        rw [hQ]
        exact W.iret (v := (-1)) hx hb hr (fun t ht hW9 => ⟨⟨(-1), (K, L, M_4), rfl, ⟨hX0, hW, hF, hT2, trivial⟩, ⟨1, (-1), by rw [ht]; exact hP, hD⟩⟩, hS.F ht⟩) hS.2.2 dX11_join_43
set_option maxHeartbeats 4000000 in
set_option maxRecDepth 100000 in
theorem s_X11_die (l : Launch) (D : va_G) (cy : Nat → ClassId) (K0 : Kp) (L0 : List Nat) (M0 : Hp) (sz : Nat) (xa : Nat) (x0 : Nat) (x1 : Nat) (x2 : Nat) (x3 : Nat) (x4 : Nat) (x5 : Nat) (x6 : Nat) (x7 : Int32) (x8 : Nat) (x9 : Int32) (x10 : Int32) (k1 : Int32) (k2 : Int32) (k3 : Int32) (k4 : Int32) (hW : WOK cy K0 L0 M0) (i0 : isk K0 L0 x0 17 8) (b1 : x1 ≤ 8) (i2 : isk K0 L0 x2 19 40) (b3 : x3 ≤ 40) (i4 : isk K0 L0 x4 7 0) (i5 : isk K0 L0 x5 5 0) (i6 : isk K0 L0 x6 60 24) (i8 : isk K0 L0 x8 73 25) : Met l yX11_die (wsM yX11_die cX11_die 9 (some .int)) ({ frames := 3, cells := 1, slots := 16, locals := 62 }) (va_Pc [.ref xa, .int k1, .int k2, .int k3, .int k4] (PG D cy [(xa, .inr (11, [.ref x0, .int (nI x1), .ref x2, .int (nI x3), .ref x4, .ref x5, .ref x6, .int x7, .ref x8, .int x9, .int x10]))] L0 M0 sz)) (va_Qi (fun (r : Int32) (u : Kp × List Nat × Hp) => ext K0 L0 u.1 u.2.1 ∧ WOK cy u.1 u.2.1 u.2.2 ∧ fr K0 L0 [2, 9, 61, 62] M0 u.2.2 ∧ fT 2 K0 L0 [9, 15] M0 u.2.2 ∧ fT 9 K0 L0 [5, 6, 7, 8] M0 u.2.2 ∧ (True)) (fun u t => ∃ (w9 : Int32) (w10 : Int32), PQ D [(xa, .inr (11, [.ref x0, .int (nI x1), .ref x2, .int (nI x3), .ref x4, .ref x5, .ref x6, .int x7, .ref x8, .int w9, .int w10]))] u.2.1 u.2.2 (va_A ([(xa, .inr (11, [.ref x0, .int (nI x1), .ref x2, .int (nI x3), .ref x4, .ref x5, .ref x6, .int x7, .ref x8, .int x9, .int x10]))] ++ va_pl L0 M0) sz) t) (va_A ([(xa, .inr (11, [.ref x0, .int (nI x1), .ref x2, .int (nI x3), .ref x4, .ref x5, .ref x6, .int x7, .ref x8, .int x9, .int x10]))] ++ va_pl L0 M0) sz)) 1 16 (va_A ([(xa, .inr (11, [.ref x0, .int (nI x1), .ref x2, .int (nI x3), .ref x4, .ref x5, .ref x6, .int x7, .ref x8, .int x9, .int x10]))] ++ va_pl L0 M0) sz) := by
  refine Met.ofW (cc := cX11_die) (maxL := 9) (ret := (some .int)) (by decide) rfl ?_
  intro p e s m args below meth c s₁ B hml hv
  obtain ⟨rfl, hsz, hP, hK, hD0, hN⟩ := hv
  have hx := B.exec
  have hb := B.bytes
  have hr := B.returns
  have hts := atoms_spec (ws := (wsM yX11_die cX11_die 9 (some .int))) B.pre
  have hg : ∀ w ∈ lw_good, w.before _ s = true := fun w h => hts w (List.mem_cons_of_mem _ h)
  have hown : s.vm.findClass RX11 = some m.cls := findClass_of_methodNamed B.named
  have hlocks := B.notSynchronized
  subst hsz
  have hD := hD0.self (sz := s.heap.size)
  generalize hAe : va_A ([(xa, .inr (11, [.ref x0, .int (nI x1), .ref x2, .int (nI x3), .ref x4, .ref x5, .ref x6, .int x7, .ref x8, .int x9, .int x10]))] ++ va_pl L0 M0) s.heap.size = A at hD ⊢
  have hA : ∀ q : Nat, s.heap.size ≤ q → A q := fun q h => by rw [← hAe]; exact Or.inr h
  have hS : va_S A s.heap s.heap [] := va_S.rf
  have hl := lv_entry ([.ref xa, .int k1, .int k2, .int k3, .int k4]) (n := 9) (Nat.le_of_ble_eq_true rfl)
  rw [lg_entry_eq]
  generalize (lg_sl ([.ref xa, .int k1, .int k2, .int k3, .int k4]) ++ List.replicate (9 - (lg_sl ([.ref xa, .int k1, .int k2, .int k3, .int k4])).length) Slot.unset).toArray = ls at hl ⊢
  refine W.nameQ (fun Q hQ => ?_)
  refine W.nameR (fun R hR => ?_)
  have hRf : 3 ≤ R.frames := by rw [hR]; exact Nat.le_of_ble_eq_true rfl
  have hRl : 62 ≤ R.locals := by rw [hR]; exact Nat.le_of_ble_eq_true rfl
  have hRc : 1 ≤ R.cells := by rw [hR]; exact Nat.le_of_ble_eq_true rfl
  have hRs : 16 ≤ R.slots := by rw [hR]; exact Nat.le_of_ble_eq_true rfl
  obtain ⟨K, L, M, hX0, hF, hT2, hT9, hW, hP, hD, i0, i2, i4, i5, i6, i8⟩ : ∃ (K : Kp) (L : List Nat) (M : Hp), ext K0 L0 K L ∧ fr K0 L0 [2, 9, 61, 62] M0 M ∧ fT 2 K0 L0 [9, 15] M0 M ∧ fT 9 K0 L0 [5, 6, 7, 8] M0 M ∧ WOK cy K L M ∧ va_P D vwCl ([(xa, .inr (11, [.ref x0, .int (nI x1), .ref x2, .int (nI x3), .ref x4, .ref x5, .ref x6, .int x7, .ref x8, .int x9, .int x10]))] ++ va_pl L M) s.heap ∧ va_D A ([(xa, .inr (11, [.ref x0, .int (nI x1), .ref x2, .int (nI x3), .ref x4, .ref x5, .ref x6, .int x7, .ref x8, .int x9, .int x10]))] ++ va_pl L M) ∧ isk K L x0 17 8 ∧ isk K L x2 19 40 ∧ isk K L x4 7 0 ∧ isk K L x5 5 0 ∧ isk K L x6 60 24 ∧ isk K L x8 73 25 := ⟨K0, L0, M0, ext.rf, fr.rf, fT.rf, fT.rf, hW, hP, hD, i0, i2, i4, i5, i6, i8⟩
  have hl : lv_has ls 9 [(0, .ref xa), (1, .int k1), (2, .int k2), (3, .int k3), (4, .int k4)] := hl
  refine lv_aload_n hx hb dX11_die_0 rfl (lv_at hl 0 rfl) ?_
  refine lv_iload_n hx hb dX11_die_1 rfl (lv_at hl 1 rfl) ?_
  have hPc : va_P D vwCl ([(xa, .inr (11, [.ref x0, .int (nI x1), .ref x2, .int (nI x3), .ref x4, .ref x5, .ref x6, .int x7, .ref x8, .int x9, .int x10]))] ++ va_pl L M) s.heap := hP
  have hDc : va_D A ([(xa, .inr (11, [.ref x0, .int (nI x1), .ref x2, .int (nI x3), .ref x4, .ref x5, .ref x6, .int x7, .ref x8, .int x9, .int x10]))] ++ va_pl L M) := hD
  have hFc : ∀ q, va_A ([(xa, .inr (11, [.ref x0, .int (nI x1), .ref x2, .int (nI x3), .ref x4, .ref x5, .ref x6, .int x7, .ref x8, .int x9, .int x10]))] ++ va_pl L M) s.heap.size q → A q := pg_free hDc hS hA
  refine va_callq (va_runV (As := [.int k1]) (rest := []) ⟨hx, hb, hml, hown, hg⟩ (s_X11_houseAt l D cy K L M s.heap.size xa x0 x1 x2 x3 x4 x5 x6 x7 x8 x9 x10 k1  hW i0 b1 i2 b3 i4 i5 i6 i8) (cwV 1 hg (gV wd_340 wd_341 wd_342 wd_3 wd_343) rfl rfl rfl (by decide +kernel) ⟨(Nat.le_trans (Nat.le_of_ble_eq_true rfl) hRf), (Nat.le_trans (Nat.le_of_ble_eq_true rfl) hRl)⟩) ⟨PG.blind, va_recv hK hP (ci := 11) (q0 := 0) rfl rfl, fun U hU hW => ⟨rfl, PG.at hPc hK hDc hN hU hW⟩⟩ rfl rfl hl.1 rfl (lv_room (Nat.le_of_ble_eq_true rfl)) dX11_die_2 ⟨(Nat.le_trans (Nat.le_of_ble_eq_true rfl) hRc), (Nat.le_trans (Nat.le_of_ble_eq_true rfl) hRs)⟩) hS (fun q _ h => hFc q h) hFc (fun r_2 M_3 t H_1 locs ht hvm hw hB hz1 hk1 hS => ?_)
  have hp_4 := hw
  obtain ⟨hP1, hD1⟩ := hB
  rw [ht] at hP1
  have hP : va_P D vwCl ([(xa, .inr (11, [.ref x0, .int (nI x1), .ref x2, .int (nI x3), .ref x4, .ref x5, .ref x6, .int x7, .ref x8, .int x9, .int x10]))] ++ va_pl L M) H_1 := hP1
  have hD : va_D A ([(xa, .inr (11, [.ref x0, .int (nI x1), .ref x2, .int (nI x3), .ref x4, .ref x5, .ref x6, .int x7, .ref x8, .int x9, .int x10]))] ++ va_pl L M) := hD1.mono hFc
  rcases r_2 with _ | b_5
  · have hz := rfl (a := 0)
    refine lv_astoreN (lv' := [(5, .null), (0, .ref xa), (1, .int k1), (2, .int k2), (3, .int k3), (4, .int k4)]) hx hb dX11_die_5 hl (by decide) rfl (fun ls hl => ?_)
    refine lv_aload_n hx hb dX11_die_7 rfl (lv_at hl 1 rfl) ?_
    refine lv_iload hx hb dX11_die_8 (lv_at hl 5 rfl) ?_
    have hPc : va_P D vwCl ([(xa, .inr (11, [.ref x0, .int (nI x1), .ref x2, .int (nI x3), .ref x4, .ref x5, .ref x6, .int x7, .ref x8, .int x9, .int x10]))] ++ va_pl L M) H_1 := hP
    have hDc : va_D A ([(xa, .inr (11, [.ref x0, .int (nI x1), .ref x2, .int (nI x3), .ref x4, .ref x5, .ref x6, .int x7, .ref x8, .int x9, .int x10]))] ++ va_pl L M) := hD
    have hFc : ∀ q, va_A ([(xa, .inr (11, [.ref x0, .int (nI x1), .ref x2, .int (nI x3), .ref x4, .ref x5, .ref x6, .int x7, .ref x8, .int x9, .int x10]))] ++ va_pl L M) H_1.size q → A q := pg_free hDc hS hA
    refine va_callq (va_runV (As := [.int k4]) (rest := []) ⟨hx, hb, hml, hown, hg⟩ (s_X11_partnerAt l D cy K L M H_1.size xa x0 x1 x2 x3 x4 x5 x6 x7 x8 x9 x10 k4  hW i0 b1 i2 b3 i4 i5 i6 i8) (cwV 1 hg (gV wd_553 wd_554 wd_555 wd_3 wd_556) rfl rfl rfl (by decide +kernel) ⟨(Nat.le_trans (Nat.le_of_ble_eq_true rfl) hRf), (Nat.le_trans (Nat.le_of_ble_eq_true rfl) hRl)⟩) ⟨PG.blind, va_recv hK hP (ci := 11) (q0 := 0) rfl rfl, fun U hU hW => ⟨rfl, PG.at hPc hK hDc hN hU hW⟩⟩ rfl rfl hl.1 rfl (lv_room (Nat.le_of_ble_eq_true rfl)) dX11_die_10 ⟨(Nat.le_trans (Nat.le_of_ble_eq_true rfl) hRc), (Nat.le_trans (Nat.le_of_ble_eq_true rfl) hRs)⟩) hS (fun q _ h => hFc q h) hFc (fun r_7 M_8 t H_6 locs ht hvm hw hB hz1 hk1 hS => ?_)
    have hp_9 := hw
    obtain ⟨hP1, hD1⟩ := hB
    rw [ht] at hP1
    have hP : va_P D vwCl ([(xa, .inr (11, [.ref x0, .int (nI x1), .ref x2, .int (nI x3), .ref x4, .ref x5, .ref x6, .int x7, .ref x8, .int x9, .int x10]))] ++ va_pl L M) H_6 := hP1
    have hD : va_D A ([(xa, .inr (11, [.ref x0, .int (nI x1), .ref x2, .int (nI x3), .ref x4, .ref x5, .ref x6, .int x7, .ref x8, .int x9, .int x10]))] ++ va_pl L M) := hD1.mono hFc
    rcases r_7 with _ | b_10
    · have hz := rfl (a := 0)
      refine lv_astoreN (lv' := [(6, .null), (5, .null), (0, .ref xa), (1, .int k1), (2, .int k2), (3, .int k3), (4, .int k4)]) hx hb dX11_die_13 hl (by decide) rfl (fun ls hl => ?_)
      refine lv_aloadN hx hb dX11_die_15 (lv_at hl 1 rfl) ?_
      refine lv_ifnullN (tgt := 32) hx hb dX11_die_17 (by decide) ?_
      refine lv_aload_n hx hb dX11_die_32 rfl (lv_at hl 2 rfl) ?_
      refine lv_iconst (v := 1) hx hb dX11_die_33 (by decide) ?_
      have hPc := hP.sub (ws' := [(xa, .inr (11, [.ref x0, .int (nI x1), .ref x2, .int (nI x3), .ref x4, .ref x5, .ref x6, .int x7, .ref x8, .int x9, .int x10]))]) [0] rfl
      have hDc := hD.sub (ws' := [(xa, .inr (11, [.ref x0, .int (nI x1), .ref x2, .int (nI x3), .ref x4, .ref x5, .ref x6, .int x7, .ref x8, .int x9, .int x10]))]) [0] (by decide) rfl
      have hKc := hK.sub (tys' := []) [] rfl
      have hFc := va_free (wc := [(xa, .inr (11, [.ref x0, .int (nI x1), .ref x2, .int (nI x3), .ref x4, .ref x5, .ref x6, .int x7, .ref x8, .int x9, .int x10]))]) hD hS hA [0] rfl
      refine va_calli (va_runV (As := [.int 1]) (rest := []) ⟨hx, hb, hml, hown, hg⟩ (k_refuse l D H_6.size xa x0 (nI x1) x2 (nI x3) x4 x5 x6 x7 x8 x9 x10 1) (cwV 1 hg (gV wd_344 wd_345 wd_346 wd_3 wd_347) rfl rfl rfl (by decide +kernel) ⟨(Nat.le_trans (Nat.le_of_ble_eq_true rfl) hRf), (Nat.le_trans (Nat.le_of_ble_eq_true rfl) hRl)⟩) ⟨Pr.blind, va_recv hK hP (ci := 11) (q0 := 0) rfl rfl, fun U hU hW => ⟨rfl, Pr.at hPc hKc hDc hN hU hW⟩⟩ rfl rfl hl.1 rfl (lv_room (Nat.le_of_ble_eq_true rfl)) dX11_die_34 ⟨(Nat.le_trans (Nat.le_of_ble_eq_true rfl) hRc), (Nat.le_trans (Nat.le_of_ble_eq_true rfl) hRs)⟩) hS (fun q _ h => hFc q h) hFc (fun r_12 M_13 t H_11 locs ht hvm hw hB hz1 hk1 hS => ?_)
      have hp_14 := hw
      obtain ⟨hP1, hK1, hD1⟩ := hB
      rw [ht] at hP1
      obtain ⟨hP, hD⟩ := va_joinQ (X := [(xa, .inr (11, [.ref x0, .int (nI x1), .ref x2, .int (nI x3), .ref x4, .ref x5, .ref x6, .int x7, .ref x8, .int x9, .int x10]))]) (cx := [(xa, .inr (11, [.ref x0, .int (nI x1), .ref x2, .int (nI x3), .ref x4, .ref x5, .ref x6, .int x7, .ref x8, .int x9, .int x10]))]) (wr := []) (w1 := [(xa, .inr (11, [.ref x0, .int (nI x1), .ref x2, .int (nI x3), .ref x4, .ref x5, .ref x6, .int x7, .ref x8, .int 1, .int (-1)]))]) (pl := va_pl L M) hP hD [0] [] rfl rfl (by decide) (by decide) hk1 hFc hP1 hD1
      have hP : va_P D vwCl ([(xa, .inr (11, [.ref x0, .int (nI x1), .ref x2, .int (nI x3), .ref x4, .ref x5, .ref x6, .int x7, .ref x8, .int 1, .int (-1)]))] ++ va_pl L M) H_11 := hP
      have hD : va_D A ([(xa, .inr (11, [.ref x0, .int (nI x1), .ref x2, .int (nI x3), .ref x4, .ref x5, .ref x6, .int x7, .ref x8, .int 1, .int (-1)]))] ++ va_pl L M) := hD
      have hq := Eq.symm hp_14
      subst hq
      refine W.widen (k := 1) (n := 16) (Nat.le_of_ble_eq_true rfl) (Nat.le_of_ble_eq_true rfl) ?_
      rw [hQ]
      exact W.iret (v := (-1)) hx hb hr (fun t ht hW9 => ⟨⟨(-1), (K, L, M), rfl, ⟨hX0, hW, hF, hT2, hT9, trivial⟩, ⟨1, (-1), by rw [ht]; exact hP, hD⟩⟩, hS.F ht⟩) hS.2.2 dX11_die_37
    · have hb_15 := hp_9 b_10 rfl
      refine lv_astore (lv' := [(6, .ref b_10), (5, .null), (0, .ref xa), (1, .int k1), (2, .int k2), (3, .int k3), (4, .int k4)]) hx hb dX11_die_13 hl (by decide) rfl (fun ls hl => ?_)
      refine lv_aloadN hx hb dX11_die_15 (lv_at hl 1 rfl) ?_
      refine lv_ifnullN (tgt := 32) hx hb dX11_die_17 (by decide) ?_
      refine lv_aload_n hx hb dX11_die_32 rfl (lv_at hl 2 rfl) ?_
      refine lv_iconst (v := 1) hx hb dX11_die_33 (by decide) ?_
      have hPc := hP.sub (ws' := [(xa, .inr (11, [.ref x0, .int (nI x1), .ref x2, .int (nI x3), .ref x4, .ref x5, .ref x6, .int x7, .ref x8, .int x9, .int x10]))]) [0] rfl
      have hDc := hD.sub (ws' := [(xa, .inr (11, [.ref x0, .int (nI x1), .ref x2, .int (nI x3), .ref x4, .ref x5, .ref x6, .int x7, .ref x8, .int x9, .int x10]))]) [0] (by decide) rfl
      have hKc := hK.sub (tys' := []) [] rfl
      have hFc := va_free (wc := [(xa, .inr (11, [.ref x0, .int (nI x1), .ref x2, .int (nI x3), .ref x4, .ref x5, .ref x6, .int x7, .ref x8, .int x9, .int x10]))]) hD hS hA [0] rfl
      refine va_calli (va_runV (As := [.int 1]) (rest := []) ⟨hx, hb, hml, hown, hg⟩ (k_refuse l D H_6.size xa x0 (nI x1) x2 (nI x3) x4 x5 x6 x7 x8 x9 x10 1) (cwV 1 hg (gV wd_344 wd_345 wd_346 wd_3 wd_347) rfl rfl rfl (by decide +kernel) ⟨(Nat.le_trans (Nat.le_of_ble_eq_true rfl) hRf), (Nat.le_trans (Nat.le_of_ble_eq_true rfl) hRl)⟩) ⟨Pr.blind, va_recv hK hP (ci := 11) (q0 := 0) rfl rfl, fun U hU hW => ⟨rfl, Pr.at hPc hKc hDc hN hU hW⟩⟩ rfl rfl hl.1 rfl (lv_room (Nat.le_of_ble_eq_true rfl)) dX11_die_34 ⟨(Nat.le_trans (Nat.le_of_ble_eq_true rfl) hRc), (Nat.le_trans (Nat.le_of_ble_eq_true rfl) hRs)⟩) hS (fun q _ h => hFc q h) hFc (fun r_17 M_18 t H_16 locs ht hvm hw hB hz1 hk1 hS => ?_)
      have hp_19 := hw
      obtain ⟨hP1, hK1, hD1⟩ := hB
      rw [ht] at hP1
      obtain ⟨hP, hD⟩ := va_joinQ (X := [(xa, .inr (11, [.ref x0, .int (nI x1), .ref x2, .int (nI x3), .ref x4, .ref x5, .ref x6, .int x7, .ref x8, .int x9, .int x10]))]) (cx := [(xa, .inr (11, [.ref x0, .int (nI x1), .ref x2, .int (nI x3), .ref x4, .ref x5, .ref x6, .int x7, .ref x8, .int x9, .int x10]))]) (wr := []) (w1 := [(xa, .inr (11, [.ref x0, .int (nI x1), .ref x2, .int (nI x3), .ref x4, .ref x5, .ref x6, .int x7, .ref x8, .int 1, .int (-1)]))]) (pl := va_pl L M) hP hD [0] [] rfl rfl (by decide) (by decide) hk1 hFc hP1 hD1
      have hP : va_P D vwCl ([(xa, .inr (11, [.ref x0, .int (nI x1), .ref x2, .int (nI x3), .ref x4, .ref x5, .ref x6, .int x7, .ref x8, .int 1, .int (-1)]))] ++ va_pl L M) H_16 := hP
      have hD : va_D A ([(xa, .inr (11, [.ref x0, .int (nI x1), .ref x2, .int (nI x3), .ref x4, .ref x5, .ref x6, .int x7, .ref x8, .int 1, .int (-1)]))] ++ va_pl L M) := hD
      have hq := Eq.symm hp_19
      subst hq
      refine W.widen (k := 1) (n := 16) (Nat.le_of_ble_eq_true rfl) (Nat.le_of_ble_eq_true rfl) ?_
      rw [hQ]
      exact W.iret (v := (-1)) hx hb hr (fun t ht hW9 => ⟨⟨(-1), (K, L, M), rfl, ⟨hX0, hW, hF, hT2, hT9, trivial⟩, ⟨1, (-1), by rw [ht]; exact hP, hD⟩⟩, hS.F ht⟩) hS.2.2 dX11_die_37
  · have hb_20 := hp_4 b_5 rfl
    refine lv_astore (lv' := [(5, .ref b_5), (0, .ref xa), (1, .int k1), (2, .int k2), (3, .int k3), (4, .int k4)]) hx hb dX11_die_5 hl (by decide) rfl (fun ls hl => ?_)
    refine lv_aload_n hx hb dX11_die_7 rfl (lv_at hl 1 rfl) ?_
    refine lv_iload hx hb dX11_die_8 (lv_at hl 5 rfl) ?_
    have hPc : va_P D vwCl ([(xa, .inr (11, [.ref x0, .int (nI x1), .ref x2, .int (nI x3), .ref x4, .ref x5, .ref x6, .int x7, .ref x8, .int x9, .int x10]))] ++ va_pl L M) H_1 := hP
    have hDc : va_D A ([(xa, .inr (11, [.ref x0, .int (nI x1), .ref x2, .int (nI x3), .ref x4, .ref x5, .ref x6, .int x7, .ref x8, .int x9, .int x10]))] ++ va_pl L M) := hD
    have hFc : ∀ q, va_A ([(xa, .inr (11, [.ref x0, .int (nI x1), .ref x2, .int (nI x3), .ref x4, .ref x5, .ref x6, .int x7, .ref x8, .int x9, .int x10]))] ++ va_pl L M) H_1.size q → A q := pg_free hDc hS hA
    refine va_callq (va_runV (As := [.int k4]) (rest := []) ⟨hx, hb, hml, hown, hg⟩ (s_X11_partnerAt l D cy K L M H_1.size xa x0 x1 x2 x3 x4 x5 x6 x7 x8 x9 x10 k4  hW i0 b1 i2 b3 i4 i5 i6 i8) (cwV 1 hg (gV wd_553 wd_554 wd_555 wd_3 wd_556) rfl rfl rfl (by decide +kernel) ⟨(Nat.le_trans (Nat.le_of_ble_eq_true rfl) hRf), (Nat.le_trans (Nat.le_of_ble_eq_true rfl) hRl)⟩) ⟨PG.blind, va_recv hK hP (ci := 11) (q0 := 0) rfl rfl, fun U hU hW => ⟨rfl, PG.at hPc hK hDc hN hU hW⟩⟩ rfl rfl hl.1 rfl (lv_room (Nat.le_of_ble_eq_true rfl)) dX11_die_10 ⟨(Nat.le_trans (Nat.le_of_ble_eq_true rfl) hRc), (Nat.le_trans (Nat.le_of_ble_eq_true rfl) hRs)⟩) hS (fun q _ h => hFc q h) hFc (fun r_22 M_23 t H_21 locs ht hvm hw hB hz1 hk1 hS => ?_)
    have hp_24 := hw
    obtain ⟨hP1, hD1⟩ := hB
    rw [ht] at hP1
    have hP : va_P D vwCl ([(xa, .inr (11, [.ref x0, .int (nI x1), .ref x2, .int (nI x3), .ref x4, .ref x5, .ref x6, .int x7, .ref x8, .int x9, .int x10]))] ++ va_pl L M) H_21 := hP1
    have hD : va_D A ([(xa, .inr (11, [.ref x0, .int (nI x1), .ref x2, .int (nI x3), .ref x4, .ref x5, .ref x6, .int x7, .ref x8, .int x9, .int x10]))] ++ va_pl L M) := hD1.mono hFc
    rcases r_22 with _ | b_25
    · have hz := rfl (a := 0)
      refine lv_astoreN (lv' := [(6, .null), (5, .ref b_5), (0, .ref xa), (1, .int k1), (2, .int k2), (3, .int k3), (4, .int k4)]) hx hb dX11_die_13 hl (by decide) rfl (fun ls hl => ?_)
      refine lv_aload hx hb dX11_die_15 (lv_at hl 1 rfl) ?_
      refine lv_ifnull hx hb dX11_die_17 ?_
      refine lv_aloadN hx hb dX11_die_20 (lv_at hl 0 rfl) ?_
      refine lv_ifnullN (tgt := 32) hx hb dX11_die_22 (by decide) ?_
      refine lv_aload_n hx hb dX11_die_32 rfl (lv_at hl 2 rfl) ?_
      refine lv_iconst (v := 1) hx hb dX11_die_33 (by decide) ?_
      have hPc := hP.sub (ws' := [(xa, .inr (11, [.ref x0, .int (nI x1), .ref x2, .int (nI x3), .ref x4, .ref x5, .ref x6, .int x7, .ref x8, .int x9, .int x10]))]) [0] rfl
      have hDc := hD.sub (ws' := [(xa, .inr (11, [.ref x0, .int (nI x1), .ref x2, .int (nI x3), .ref x4, .ref x5, .ref x6, .int x7, .ref x8, .int x9, .int x10]))]) [0] (by decide) rfl
      have hKc := hK.sub (tys' := []) [] rfl
      have hFc := va_free (wc := [(xa, .inr (11, [.ref x0, .int (nI x1), .ref x2, .int (nI x3), .ref x4, .ref x5, .ref x6, .int x7, .ref x8, .int x9, .int x10]))]) hD hS hA [0] rfl
      refine va_calli (va_runV (As := [.int 1]) (rest := []) ⟨hx, hb, hml, hown, hg⟩ (k_refuse l D H_21.size xa x0 (nI x1) x2 (nI x3) x4 x5 x6 x7 x8 x9 x10 1) (cwV 1 hg (gV wd_344 wd_345 wd_346 wd_3 wd_347) rfl rfl rfl (by decide +kernel) ⟨(Nat.le_trans (Nat.le_of_ble_eq_true rfl) hRf), (Nat.le_trans (Nat.le_of_ble_eq_true rfl) hRl)⟩) ⟨Pr.blind, va_recv hK hP (ci := 11) (q0 := 0) rfl rfl, fun U hU hW => ⟨rfl, Pr.at hPc hKc hDc hN hU hW⟩⟩ rfl rfl hl.1 rfl (lv_room (Nat.le_of_ble_eq_true rfl)) dX11_die_34 ⟨(Nat.le_trans (Nat.le_of_ble_eq_true rfl) hRc), (Nat.le_trans (Nat.le_of_ble_eq_true rfl) hRs)⟩) hS (fun q _ h => hFc q h) hFc (fun r_27 M_28 t H_26 locs ht hvm hw hB hz1 hk1 hS => ?_)
      have hp_29 := hw
      obtain ⟨hP1, hK1, hD1⟩ := hB
      rw [ht] at hP1
      obtain ⟨hP, hD⟩ := va_joinQ (X := [(xa, .inr (11, [.ref x0, .int (nI x1), .ref x2, .int (nI x3), .ref x4, .ref x5, .ref x6, .int x7, .ref x8, .int x9, .int x10]))]) (cx := [(xa, .inr (11, [.ref x0, .int (nI x1), .ref x2, .int (nI x3), .ref x4, .ref x5, .ref x6, .int x7, .ref x8, .int x9, .int x10]))]) (wr := []) (w1 := [(xa, .inr (11, [.ref x0, .int (nI x1), .ref x2, .int (nI x3), .ref x4, .ref x5, .ref x6, .int x7, .ref x8, .int 1, .int (-1)]))]) (pl := va_pl L M) hP hD [0] [] rfl rfl (by decide) (by decide) hk1 hFc hP1 hD1
      have hP : va_P D vwCl ([(xa, .inr (11, [.ref x0, .int (nI x1), .ref x2, .int (nI x3), .ref x4, .ref x5, .ref x6, .int x7, .ref x8, .int 1, .int (-1)]))] ++ va_pl L M) H_26 := hP
      have hD : va_D A ([(xa, .inr (11, [.ref x0, .int (nI x1), .ref x2, .int (nI x3), .ref x4, .ref x5, .ref x6, .int x7, .ref x8, .int 1, .int (-1)]))] ++ va_pl L M) := hD
      have hq := Eq.symm hp_29
      subst hq
      refine W.widen (k := 1) (n := 16) (Nat.le_of_ble_eq_true rfl) (Nat.le_of_ble_eq_true rfl) ?_
      rw [hQ]
      exact W.iret (v := (-1)) hx hb hr (fun t ht hW9 => ⟨⟨(-1), (K, L, M), rfl, ⟨hX0, hW, hF, hT2, hT9, trivial⟩, ⟨1, (-1), by rw [ht]; exact hP, hD⟩⟩, hS.F ht⟩) hS.2.2 dX11_die_37
    · have hb_30 := hp_24 b_25 rfl
      refine lv_astore (lv' := [(6, .ref b_25), (5, .ref b_5), (0, .ref xa), (1, .int k1), (2, .int k2), (3, .int k3), (4, .int k4)]) hx hb dX11_die_13 hl (by decide) rfl (fun ls hl => ?_)
      refine lv_aload hx hb dX11_die_15 (lv_at hl 1 rfl) ?_
      refine lv_ifnull hx hb dX11_die_17 ?_
      refine lv_aload hx hb dX11_die_20 (lv_at hl 0 rfl) ?_
      refine lv_ifnull hx hb dX11_die_22 ?_
      refine lv_iload_n hx hb dX11_die_25 rfl (lv_at hl 4 rfl) ?_
      have hPc : va_P D vwCl ([] ++ va_pl L M) H_21 := hP.part (cx := []) [] rfl
      have hDc : va_D A ([] ++ va_pl L M) := hD.part (cx := []) [] (by decide) rfl
      have hFc : ∀ q, va_A ([] ++ va_pl L M) H_21.size q → A q := pg_free hDc hS hA
      refine va_calli (va_runS (As := [.int k2]) (rest := []) ⟨hx, hb, hml, hown, hg⟩ (s_X11_isSeat l D cy K L M H_21.size k2  hW ) (va_cwS 1 hg (gS wd_348 wd_47 wd_3 wd_46) rfl rfl rfl (by decide +kernel) ⟨(Nat.le_trans (Nat.le_of_ble_eq_true rfl) hRf), (Nat.le_trans (Nat.le_of_ble_eq_true rfl) hRl)⟩) ⟨PG.blind, fun U hU hW => ⟨rfl, PG.at hPc hK hDc hN hU hW⟩⟩ rfl rfl hl.1 rfl (lv_room (Nat.le_of_ble_eq_true rfl)) dX11_die_26 ⟨(Nat.le_trans (Nat.le_of_ble_eq_true rfl) hRc), (Nat.le_trans (Nat.le_of_ble_eq_true rfl) hRs)⟩) hS (fun q _ h => hFc q h) hFc (fun r_32 M_33 t H_31 locs ht hvm hw hB hz1 hk1 hS => ?_)
      have hp_34 := hw
      obtain ⟨hP1, hD1⟩ := hB
      rw [ht] at hP1
      obtain ⟨hP, hD⟩ := va_joinP (X := [(xa, .inr (11, [.ref x0, .int (nI x1), .ref x2, .int (nI x3), .ref x4, .ref x5, .ref x6, .int x7, .ref x8, .int x9, .int x10]))]) (cx := []) (wr := [(xa, .inr (11, [.ref x0, .int (nI x1), .ref x2, .int (nI x3), .ref x4, .ref x5, .ref x6, .int x7, .ref x8, .int x9, .int x10]))]) (rx := []) (pl := va_pl L M) (pl1 := va_pl L M) hP hD [] [0] rfl rfl (by decide) (by decide) hk1 hFc hP1 hD1
      have hP : va_P D vwCl ([(xa, .inr (11, [.ref x0, .int (nI x1), .ref x2, .int (nI x3), .ref x4, .ref x5, .ref x6, .int x7, .ref x8, .int x9, .int x10]))] ++ va_pl L M) H_31 := hP
      have hD : va_D A ([(xa, .inr (11, [.ref x0, .int (nI x1), .ref x2, .int (nI x3), .ref x4, .ref x5, .ref x6, .int x7, .ref x8, .int x9, .int x10]))] ++ va_pl L M) := hD
      rcases hp_34 with ⟨rfl, c_35, c_36⟩ | rfl
      · have hz := rfl (a := 0)
        refine lv_if_ne (tgt := 38) hx hb dX11_die_29 (by decide) (fun _ => ?_) (fun c_37 => absurd c_37 (by decide))
        refine lv_aload hx hb dX11_die_38 (lv_at hl 1 rfl) ?_
        refine lv_iload_n hx hb dX11_die_40 rfl (lv_at hl 4 rfl) ?_
        obtain ⟨v38_0, v38_1, v38_2, v38_3, v38_4, v38_5, v38_6, v38_7, v38_8, v38_9, v38_10, v38_11, v38_12, v38_13, v38_14, v38_15, v38_16, v38_17, v38_18, v38_19, hM38, h38_3, h38_4, h38_5, h38_6, h38_7, h38_8, h38_9, h38_10, h38_11, h38_12, h38_13, h38_16, h38_17, h38_18, h38_19⟩ := hW.open_2 hb_20
        have hPc : va_P D vwCl ([] ++ va_pl L M) H_31 := hP.part (cx := []) [] rfl
        have hDc : va_D A ([] ++ va_pl L M) := hD.part (cx := []) [] (by decide) rfl
        have hFc : ∀ q, va_A ([] ++ va_pl L M) H_31.size q → A q := pg_free hDc hS hA
        refine va_callq (va_runV (As := [.int k2]) (rest := []) ⟨hx, hb, hml, hown, hg⟩ (s_X2_sitting l D cy K L M H_31.size b_5 k2  hW hb_20) (cwV 1 hg (gV wd_351 wd_352 wd_353 wd_57 wd_354) rfl rfl rfl (by decide +kernel) ⟨(Nat.le_trans (Nat.le_of_ble_eq_true rfl) hRf), (Nat.le_trans (Nat.le_of_ble_eq_true rfl) hRl)⟩) ⟨PG.blind, pg_recv hK hP hb_20.1 hM38 rfl, fun U hU hW => ⟨rfl, PG.at hPc hK hDc hN hU hW⟩⟩ rfl rfl hl.1 rfl (lv_room (Nat.le_of_ble_eq_true rfl)) dX11_die_41 ⟨(Nat.le_trans (Nat.le_of_ble_eq_true rfl) hRc), (Nat.le_trans (Nat.le_of_ble_eq_true rfl) hRs)⟩) hS (fun q _ h => hFc q h) hFc (fun r_40 M_41 t H_39 locs ht hvm hw hB hz1 hk1 hS => ?_)
        have hp_42 := hw
        obtain ⟨hP1, hD1⟩ := hB
        rw [ht] at hP1
        obtain ⟨hP, hD⟩ := va_joinP (X := [(xa, .inr (11, [.ref x0, .int (nI x1), .ref x2, .int (nI x3), .ref x4, .ref x5, .ref x6, .int x7, .ref x8, .int x9, .int x10]))]) (cx := []) (wr := [(xa, .inr (11, [.ref x0, .int (nI x1), .ref x2, .int (nI x3), .ref x4, .ref x5, .ref x6, .int x7, .ref x8, .int x9, .int x10]))]) (rx := []) (pl := va_pl L M) (pl1 := va_pl L M) hP hD [] [0] rfl rfl (by decide) (by decide) hk1 hFc hP1 hD1
        have hP : va_P D vwCl ([(xa, .inr (11, [.ref x0, .int (nI x1), .ref x2, .int (nI x3), .ref x4, .ref x5, .ref x6, .int x7, .ref x8, .int x9, .int x10]))] ++ va_pl L M) H_39 := hP
        have hD : va_D A ([(xa, .inr (11, [.ref x0, .int (nI x1), .ref x2, .int (nI x3), .ref x4, .ref x5, .ref x6, .int x7, .ref x8, .int x9, .int x10]))] ++ va_pl L M) := hD
        rcases r_40 with _ | b_43
        · have hz := rfl (a := 0)
          refine lv_astoreN (lv' := [(7, .null), (6, .ref b_25), (5, .ref b_5), (0, .ref xa), (1, .int k1), (2, .int k2), (3, .int k3), (4, .int k4)]) hx hb dX11_die_44 hl (by decide) rfl (fun ls hl => ?_)
          refine lv_aloadN hx hb dX11_die_46 (lv_at hl 0 rfl) ?_
          refine lv_ifnonnullN hx hb dX11_die_48 ?_
          refine lv_aload_n hx hb dX11_die_51 rfl (lv_at hl 3 rfl) ?_
          refine lv_iconst (v := 4) hx hb dX11_die_52 (by decide) ?_
          have hPc := hP.sub (ws' := [(xa, .inr (11, [.ref x0, .int (nI x1), .ref x2, .int (nI x3), .ref x4, .ref x5, .ref x6, .int x7, .ref x8, .int x9, .int x10]))]) [0] rfl
          have hDc := hD.sub (ws' := [(xa, .inr (11, [.ref x0, .int (nI x1), .ref x2, .int (nI x3), .ref x4, .ref x5, .ref x6, .int x7, .ref x8, .int x9, .int x10]))]) [0] (by decide) rfl
          have hKc := hK.sub (tys' := []) [] rfl
          have hFc := va_free (wc := [(xa, .inr (11, [.ref x0, .int (nI x1), .ref x2, .int (nI x3), .ref x4, .ref x5, .ref x6, .int x7, .ref x8, .int x9, .int x10]))]) hD hS hA [0] rfl
          refine va_calli (va_runV (As := [.int 4]) (rest := []) ⟨hx, hb, hml, hown, hg⟩ (k_refuse l D H_39.size xa x0 (nI x1) x2 (nI x3) x4 x5 x6 x7 x8 x9 x10 4) (cwV 1 hg (gV wd_344 wd_345 wd_346 wd_3 wd_347) rfl rfl rfl (by decide +kernel) ⟨(Nat.le_trans (Nat.le_of_ble_eq_true rfl) hRf), (Nat.le_trans (Nat.le_of_ble_eq_true rfl) hRl)⟩) ⟨Pr.blind, va_recv hK hP (ci := 11) (q0 := 0) rfl rfl, fun U hU hW => ⟨rfl, Pr.at hPc hKc hDc hN hU hW⟩⟩ rfl rfl hl.1 rfl (lv_room (Nat.le_of_ble_eq_true rfl)) dX11_die_53 ⟨(Nat.le_trans (Nat.le_of_ble_eq_true rfl) hRc), (Nat.le_trans (Nat.le_of_ble_eq_true rfl) hRs)⟩) hS (fun q _ h => hFc q h) hFc (fun r_45 M_46 t H_44 locs ht hvm hw hB hz1 hk1 hS => ?_)
          have hp_47 := hw
          obtain ⟨hP1, hK1, hD1⟩ := hB
          rw [ht] at hP1
          obtain ⟨hP, hD⟩ := va_joinQ (X := [(xa, .inr (11, [.ref x0, .int (nI x1), .ref x2, .int (nI x3), .ref x4, .ref x5, .ref x6, .int x7, .ref x8, .int x9, .int x10]))]) (cx := [(xa, .inr (11, [.ref x0, .int (nI x1), .ref x2, .int (nI x3), .ref x4, .ref x5, .ref x6, .int x7, .ref x8, .int x9, .int x10]))]) (wr := []) (w1 := [(xa, .inr (11, [.ref x0, .int (nI x1), .ref x2, .int (nI x3), .ref x4, .ref x5, .ref x6, .int x7, .ref x8, .int 4, .int (-1)]))]) (pl := va_pl L M) hP hD [0] [] rfl rfl (by decide) (by decide) hk1 hFc hP1 hD1
          have hP : va_P D vwCl ([(xa, .inr (11, [.ref x0, .int (nI x1), .ref x2, .int (nI x3), .ref x4, .ref x5, .ref x6, .int x7, .ref x8, .int 4, .int (-1)]))] ++ va_pl L M) H_44 := hP
          have hD : va_D A ([(xa, .inr (11, [.ref x0, .int (nI x1), .ref x2, .int (nI x3), .ref x4, .ref x5, .ref x6, .int x7, .ref x8, .int 4, .int (-1)]))] ++ va_pl L M) := hD
          have hq := Eq.symm hp_47
          subst hq
          refine W.widen (k := 1) (n := 16) (Nat.le_of_ble_eq_true rfl) (Nat.le_of_ble_eq_true rfl) ?_
          rw [hQ]
          exact W.iret (v := (-1)) hx hb hr (fun t ht hW9 => ⟨⟨(-1), (K, L, M), rfl, ⟨hX0, hW, hF, hT2, hT9, trivial⟩, ⟨4, (-1), by rw [ht]; exact hP, hD⟩⟩, hS.F ht⟩) hS.2.2 dX11_die_56
        · have hb_48 := hp_42 b_43 rfl
          refine lv_astore (lv' := [(7, .ref b_43), (6, .ref b_25), (5, .ref b_5), (0, .ref xa), (1, .int k1), (2, .int k2), (3, .int k3), (4, .int k4)]) hx hb dX11_die_44 hl (by decide) rfl (fun ls hl => ?_)
          refine lv_aload hx hb dX11_die_46 (lv_at hl 0 rfl) ?_
          refine lv_ifnonnull (tgt := 57) hx hb dX11_die_48 (by decide) ?_
          refine lv_aload hx hb dX11_die_57 (lv_at hl 1 rfl) ?_
          obtain ⟨v49_0, v49_1, v49_2, v49_3, hM49, h49_3⟩ := hW.open_4 hb_30
          refine pg_get (D := D) (ci := 4) (v := .int v49_1) (C := RX4) (T := TX4) (N := 4) hx hb hg inG4 hown hK hP hb_30.1 hM49 rfl 1 (by decide) (hg _ wd_571) (fun _ h9 => h9) rfl dX11_die_59 ?_
          refine lv_iconst (v := 4) hx hb dX11_die_62 (by decide) ?_
          refine lv_icmp_eq (tgt := 72) hx hb dX11_die_63 (by decide) (fun c_50 => ?_) (fun c_50 => ?_)
          · have hz := rfl (a := 0)
            refine lv_aload hx hb dX11_die_72 (lv_at hl 2 rfl) ?_
            refine lv_iload_n hx hb dX11_die_74 rfl (lv_at hl 6 rfl) ?_
            have hPc : va_P D vwCl ([] ++ va_pl L M) H_39 := hP.part (cx := []) [] rfl
            have hDc : va_D A ([] ++ va_pl L M) := hD.part (cx := []) [] (by decide) rfl
            have hFc : ∀ q, va_A ([] ++ va_pl L M) H_39.size q → A q := pg_free hDc hS hA
            refine va_calli (va_runV (As := [.int k3]) (rest := []) ⟨hx, hb, hml, hown, hg⟩ (s_X2_isFree l D cy K L M H_39.size b_5 k3  hW hb_20) (cwV 1 hg (gV wd_361 wd_362 wd_363 wd_57 wd_364) rfl rfl rfl (by decide +kernel) ⟨(Nat.le_trans (Nat.le_of_ble_eq_true rfl) hRf), (Nat.le_trans (Nat.le_of_ble_eq_true rfl) hRl)⟩) ⟨PG.blind, pg_recv hK hP hb_20.1 hM38 rfl, fun U hU hW => ⟨rfl, PG.at hPc hK hDc hN hU hW⟩⟩ rfl rfl hl.1 rfl (lv_room (Nat.le_of_ble_eq_true rfl)) dX11_die_75 ⟨(Nat.le_trans (Nat.le_of_ble_eq_true rfl) hRc), (Nat.le_trans (Nat.le_of_ble_eq_true rfl) hRs)⟩) hS (fun q _ h => hFc q h) hFc (fun r_52 M_53 t H_51 locs ht hvm hw hB hz1 hk1 hS => ?_)
            have hp_54 := hw
            obtain ⟨hP1, hD1⟩ := hB
            rw [ht] at hP1
            obtain ⟨hP, hD⟩ := va_joinP (X := [(xa, .inr (11, [.ref x0, .int (nI x1), .ref x2, .int (nI x3), .ref x4, .ref x5, .ref x6, .int x7, .ref x8, .int x9, .int x10]))]) (cx := []) (wr := [(xa, .inr (11, [.ref x0, .int (nI x1), .ref x2, .int (nI x3), .ref x4, .ref x5, .ref x6, .int x7, .ref x8, .int x9, .int x10]))]) (rx := []) (pl := va_pl L M) (pl1 := va_pl L M) hP hD [] [0] rfl rfl (by decide) (by decide) hk1 hFc hP1 hD1
            have hP : va_P D vwCl ([(xa, .inr (11, [.ref x0, .int (nI x1), .ref x2, .int (nI x3), .ref x4, .ref x5, .ref x6, .int x7, .ref x8, .int x9, .int x10]))] ++ va_pl L M) H_51 := hP
            have hD : va_D A ([(xa, .inr (11, [.ref x0, .int (nI x1), .ref x2, .int (nI x3), .ref x4, .ref x5, .ref x6, .int x7, .ref x8, .int x9, .int x10]))] ++ va_pl L M) := hD
            rcases hp_54 with ⟨rfl, c_55, c_56⟩ | rfl
            · have hz := rfl (a := 0)
              refine lv_if_eq (tgt := 90) hx hb dX11_die_78 (by decide) (fun c_57 => absurd c_57 (by decide)) (fun _ => ?_)
              refine lv_iload_n hx hb dX11_die_81 rfl (lv_at hl 6 rfl) ?_
              refine lv_aload hx hb dX11_die_82 (lv_at hl 0 rfl) ?_
              obtain ⟨v58_0, v58_1, v58_2, v58_3, v58_4, v58_5, v58_6, v58_7, v58_8, v58_9, v58_10, v58_11, v58_12, v58_13, v58_14, v58_15, hM58, h58_0, h58_1, h58_4, h58_8⟩ := hW.open_9 hb_48
              refine pg_get (D := D) (ci := 9) (v := .int v58_3) (C := RX9) (T := TX9) (N := 16) hx hb hg inG9 hown hK hP hb_48.1 hM58 rfl 3 (by decide) (hg _ wd_365) (fun _ h9 => h9) rfl dX11_die_84 ?_
              refine lv_icmp_gt (tgt := 96) hx hb dX11_die_87 (by decide) (fun c_59 => ?_) (fun c_59 => ?_)
              · have hz := rfl (a := 0)
                refine lv_aload hx hb dX11_die_96 (lv_at hl 2 rfl) ?_
                refine pg_get (D := D) (ci := 2) (v := .int (nI v38_9)) (C := RX2) (T := TX2) (N := 20) hx hb hg inG2 hown hK hP hb_20.1 hM38 rfl 9 (by decide) (hg _ wd_465) (fun _ h9 => h9) rfl dX11_die_98 ?_
                refine lv_bipush (v := 24) hx hb dX11_die_101 (by decide) ?_
                refine lv_icmp_lt (tgt := 113) hx hb dX11_die_103 (by decide) (fun c_60 => ?_) (fun c_60 => ?_)
                · have hz := rfl (a := 0)
                  have n_61 : v38_9 < 24 := (iLT (a := v38_9) (b := 24) (by omega) (by omega)).mp c_60
                  refine lv_aload hx hb dX11_die_113 (lv_at hl 0 rfl) ?_
                  refine lv_iload_n hx hb dX11_die_115 rfl (lv_at hl 6 rfl) ?_
                  refine lv_iconst (v := 1) hx hb dX11_die_116 (by decide) ?_
                  refine lv_iconst (v := 0) hx hb dX11_die_117 (by decide) ?_
                  have hPc : va_P D vwCl ([] ++ va_pl L M) H_51 := hP.part (cx := []) [] rfl
                  have hDc : va_D A ([] ++ va_pl L M) := hD.part (cx := []) [] (by decide) rfl
                  have hFc : ∀ q, va_A ([] ++ va_pl L M) H_51.size q → A q := pg_free hDc hS hA
                  refine va_callv (va_runV (As := [.int k3, .int 1, .int 0]) (rest := []) ⟨hx, hb, hml, hown, hg⟩ (s_X9_finish l D cy K L M H_51.size b_43 k3 1 0  hW hb_48) (cwV 3 hg (gV wd_366 wd_367 wd_368 wd_52 wd_369) rfl rfl rfl (by decide +kernel) ⟨(Nat.le_trans (Nat.le_of_ble_eq_true rfl) hRf), (Nat.le_trans (Nat.le_of_ble_eq_true rfl) hRl)⟩) ⟨PG.blind, pg_recv hK hP hb_48.1 hM58 rfl, fun U hU hW => ⟨rfl, PG.at hPc hK hDc hN hU hW⟩⟩ rfl rfl hl.1 rfl (lv_room (Nat.le_of_ble_eq_true rfl)) dX11_die_118 ⟨(Nat.le_trans (Nat.le_of_ble_eq_true rfl) hRc), (Nat.le_trans (Nat.le_of_ble_eq_true rfl) hRs)⟩) hS (fun q _ h => hFc q h) hFc (fun M_64 t H_62 locs ht hvm hw hB hz1 hk1 hS => ?_)
                  obtain ⟨hW, hF2, gT9, hp_65⟩ := hw
                  obtain ⟨hP1, hD1⟩ := hB
                  rw [ht] at hP1
                  obtain ⟨hP, hD⟩ := va_joinP (X := [(xa, .inr (11, [.ref x0, .int (nI x1), .ref x2, .int (nI x3), .ref x4, .ref x5, .ref x6, .int x7, .ref x8, .int x9, .int x10]))]) (cx := []) (wr := [(xa, .inr (11, [.ref x0, .int (nI x1), .ref x2, .int (nI x3), .ref x4, .ref x5, .ref x6, .int x7, .ref x8, .int x9, .int x10]))]) (rx := []) (pl := va_pl L M) (pl1 := va_pl L M_64) hP hD [] [0] rfl rfl (by decide) (by decide) hk1 hFc hP1 hD1
                  have hP : va_P D vwCl ([(xa, .inr (11, [.ref x0, .int (nI x1), .ref x2, .int (nI x3), .ref x4, .ref x5, .ref x6, .int x7, .ref x8, .int x9, .int x10]))] ++ va_pl L M_64) H_62 := hP
                  have hD : va_D A ([(xa, .inr (11, [.ref x0, .int (nI x1), .ref x2, .int (nI x3), .ref x4, .ref x5, .ref x6, .int x7, .ref x8, .int x9, .int x10]))] ++ va_pl L M_64) := hD
                  have hM_66 : M_64 b_5 = .inr (2, [.int v38_0, .int v38_1, .int v38_2, .ref v38_3, .int (nI v38_4), .int (nI v38_5), .ref v38_6, .ref v38_7, .ref v38_8, .int (nI v38_9), .ref v38_10, .int (nI v38_11), .ref v38_12, .ref v38_13, .long v38_14, .int v38_15, .ref v38_16, .ref v38_17, .ref v38_18, .ref v38_19]) := (hF2.at hb_20 (by decide)).trans hM38
                  have hM_67 : M_64 b_25 = .inr (4, [.int v49_0, .int v49_1, .int v49_2, va_rf v49_3]) := (hF2.at hb_30 (by decide)).trans hM49
                  have hF : fr K0 L0 [2, 9, 61, 62] M0 M_64 := hF.trX hX0 hF2 (by decide)
                  have hT2 : fT 2 K0 L0 [9, 15] M0 M_64 := hT2.frrX hX0 hF2 (by decide)
                  have hT9 : fT 9 K0 L0 [5, 6, 7, 8] M0 M_64 := hT9.trX hX0 gT9 (by decide)
                  refine lv_aload hx hb dX11_die_121 (lv_at hl 2 rfl) ?_
                  refine lv_aload hx hb dX11_die_123 (lv_at hl 1 rfl) ?_
                  refine lv_iload_n hx hb dX11_die_125 rfl (lv_at hl 5 rfl) ?_
                  refine lv_iload_n hx hb dX11_die_126 rfl (lv_at hl 6 rfl) ?_
                  refine lv_iconst (v := 0) hx hb dX11_die_127 (by decide) ?_
                  have hPc : va_P D vwCl ([] ++ va_pl L M_64) H_62 := hP.part (cx := []) [] rfl
                  have hDc : va_D A ([] ++ va_pl L M_64) := hD.part (cx := []) [] (by decide) rfl
                  have hFc : ∀ q, va_A ([] ++ va_pl L M_64) H_62.size q → A q := pg_free hDc hS hA
                  refine va_calli (va_runV (As := [.ref b_25, .int k2, .int k3, .int 0]) (rest := []) ⟨hx, hb, hml, hown, hg⟩ (s_addTenure_0 l D cy K L M_64 H_62.size b_5 b_25 k2 k3  hW hb_20 hb_30) (cwV 4 hg (gV wd_562 wd_563 wd_564 wd_57 wd_565) rfl rfl rfl (by decide +kernel) ⟨(Nat.le_trans (Nat.le_of_ble_eq_true rfl) hRf), (Nat.le_trans (Nat.le_of_ble_eq_true rfl) hRl)⟩) ⟨PG.blind, pg_recv hK hP hb_20.1 hM_66 rfl, fun U hU hW => ⟨rfl, PG.at hPc hK hDc hN hU hW⟩⟩ rfl rfl hl.1 rfl (lv_room (Nat.le_of_ble_eq_true rfl)) dX11_die_128 ⟨(Nat.le_trans (Nat.le_of_ble_eq_true rfl) hRc), (Nat.le_trans (Nat.le_of_ble_eq_true rfl) hRs)⟩) hS (fun q _ h => hFc q h) hFc (fun r_69 M_70 t H_68 locs ht hvm hw hB hz1 hk1 hS => ?_)
                  obtain ⟨K9, L9, M_70m⟩ := M_70
                  dsimp only at hw hB
                  obtain ⟨hx9, hW, hF2, gT2, hp_71⟩ := hw
                  obtain ⟨hP1, hD1⟩ := hB
                  rw [ht] at hP1
                  obtain ⟨hP, hD⟩ := va_joinP (X := [(xa, .inr (11, [.ref x0, .int (nI x1), .ref x2, .int (nI x3), .ref x4, .ref x5, .ref x6, .int x7, .ref x8, .int x9, .int x10]))]) (cx := []) (wr := [(xa, .inr (11, [.ref x0, .int (nI x1), .ref x2, .int (nI x3), .ref x4, .ref x5, .ref x6, .int x7, .ref x8, .int x9, .int x10]))]) (rx := []) (pl := va_pl L M_64) (pl1 := va_pl L9 M_70m) hP hD [] [0] rfl rfl (by decide) (by decide) hk1 hFc hP1 hD1
                  have hP : va_P D vwCl ([(xa, .inr (11, [.ref x0, .int (nI x1), .ref x2, .int (nI x3), .ref x4, .ref x5, .ref x6, .int x7, .ref x8, .int x9, .int x10]))] ++ va_pl L9 M_70m) H_68 := hP
                  have hD : va_D A ([(xa, .inr (11, [.ref x0, .int (nI x1), .ref x2, .int (nI x3), .ref x4, .ref x5, .ref x6, .int x7, .ref x8, .int x9, .int x10]))] ++ va_pl L9 M_70m) := hD
                  have hM_72 : M_70m b_25 = .inr (4, [.int v49_0, .int v49_1, .int v49_2, va_rf v49_3]) := (hF2.at hb_30 (by decide)).trans hM_67
                  have hF : fr K0 L0 [2, 9, 61, 62] M0 M_70m := hF.trX hX0 hF2 (by decide)
                  have hT2 : fT 2 K0 L0 [9, 15] M0 M_70m := hT2.trX hX0 gT2 (by decide)
                  have hT9 : fT 9 K0 L0 [5, 6, 7, 8] M0 M_70m := hT9.frrX hX0 hF2 (by decide)
                  have hX0 := hX0.tr hx9
                  have i_73 := i0.ext hx9
                  have i_74 := i2.ext hx9
                  have i_75 := i4.ext hx9
                  have i_76 := i5.ext hx9
                  have i_77 := i6.ext hx9
                  have i_78 := i8.ext hx9
                  have i_79 := hb_20.ext hx9
                  have i_80 := hb_30.ext hx9
                  have i_81 := hb_48.ext hx9
                  have i_82 := h49_3.ext hx9
                  obtain ⟨K, L, hK9, hL9⟩ : ∃ (K : Kp) (L : List Nat), K = K9 ∧ L = L9 := ⟨_, _, rfl, rfl⟩
                  subst hK9
                  subst hL9
                  refine W.widen (k := 1) (n := 16) (Nat.le_of_ble_eq_true rfl) (Nat.le_of_ble_eq_true rfl) ?_
                  refine lv_istore (lv' := [(8, .int r_69), (7, .ref b_43), (6, .ref b_25), (5, .ref b_5), (0, .ref xa), (1, .int k1), (2, .int k2), (3, .int k3), (4, .int k4)]) hx hb dX11_die_131 hl (by decide) rfl (fun ls hl => ?_)
                  refine lv_aload hx hb dX11_die_133 (lv_at hl 1 rfl) ?_
                  refine lv_aload hx hb dX11_die_135 (lv_at hl 3 rfl) ?_
                  refine lv_iload hx hb dX11_die_137 (lv_at hl 0 rfl) ?_
                  obtain ⟨v83_0, v83_1, v83_2, v83_3, v83_4, v83_5, v83_6, v83_7, v83_8, v83_9, v83_10, v83_11, v83_12, v83_13, v83_14, v83_15, v83_16, v83_17, v83_18, v83_19, hM83, h83_3, h83_4, h83_5, h83_6, h83_7, h83_8, h83_9, h83_10, h83_11, h83_12, h83_13, h83_16, h83_17, h83_18, h83_19⟩ := hW.open_2 i_79
                  have hPc : va_P D vwCl ([] ++ va_pl L M_70m) H_68 := hP.part (cx := []) [] rfl
                  have hDc : va_D A ([] ++ va_pl L M_70m) := hD.part (cx := []) [] (by decide) rfl
                  have hFc : ∀ q, va_A ([] ++ va_pl L M_70m) H_68.size q → A q := pg_free hDc hS hA
                  refine va_callq (va_runV (As := [.int r_69]) (rest := [.ref b_43]) ⟨hx, hb, hml, hown, hg⟩ (s_X2_tenureAt l D cy K L M_70m H_68.size b_5 r_69  hW i_79) (cwV 1 hg (gV wd_405 wd_55 wd_56 wd_57 wd_58) rfl rfl rfl (by decide +kernel) ⟨(Nat.le_trans (Nat.le_of_ble_eq_true rfl) hRf), (Nat.le_trans (Nat.le_of_ble_eq_true rfl) hRl)⟩) ⟨PG.blind, pg_recv hK hP i_79.1 hM83 rfl, fun U hU hW => ⟨rfl, PG.at hPc hK hDc hN hU hW⟩⟩ rfl rfl hl.1 rfl (lv_room (Nat.le_of_ble_eq_true rfl)) dX11_die_139 ⟨(Nat.le_trans (Nat.le_of_ble_eq_true rfl) hRc), (Nat.le_trans (Nat.le_of_ble_eq_true rfl) hRs)⟩) hS (fun q _ h => hFc q h) hFc (fun r_85 M_86 t H_84 locs ht hvm hw hB hz1 hk1 hS => ?_)
                  have hp_87 := hw
                  obtain ⟨hP1, hD1⟩ := hB
                  rw [ht] at hP1
                  obtain ⟨hP, hD⟩ := va_joinP (X := [(xa, .inr (11, [.ref x0, .int (nI x1), .ref x2, .int (nI x3), .ref x4, .ref x5, .ref x6, .int x7, .ref x8, .int x9, .int x10]))]) (cx := []) (wr := [(xa, .inr (11, [.ref x0, .int (nI x1), .ref x2, .int (nI x3), .ref x4, .ref x5, .ref x6, .int x7, .ref x8, .int x9, .int x10]))]) (rx := []) (pl := va_pl L M_70m) (pl1 := va_pl L M_70m) hP hD [] [0] rfl rfl (by decide) (by decide) hk1 hFc hP1 hD1
                  have hP : va_P D vwCl ([(xa, .inr (11, [.ref x0, .int (nI x1), .ref x2, .int (nI x3), .ref x4, .ref x5, .ref x6, .int x7, .ref x8, .int x9, .int x10]))] ++ va_pl L M_70m) H_84 := hP
                  have hD : va_D A ([(xa, .inr (11, [.ref x0, .int (nI x1), .ref x2, .int (nI x3), .ref x4, .ref x5, .ref x6, .int x7, .ref x8, .int x9, .int x10]))] ++ va_pl L M_70m) := hD
                  rcases r_85 with _ | b_88
                  · have hz := rfl (a := 0)
                    obtain ⟨v90_0, v90_1, v90_2, v90_3, v90_4, v90_5, v90_6, v90_7, v90_8, v90_9, v90_10, v90_11, v90_12, v90_13, v90_14, v90_15, hM90, h90_0, h90_1, h90_4, h90_8⟩ := hW.open_9 i_81
                    refine pg_put (D := D) (ci := 9) (v := .null) (ty := .object "PartnersBook$Tenure") (C := RX9) (T := TX9) (N := 16) hx hb hg inG9 tyX9 tyX9_ok nmX9 hown hK hP hD hS i_81.1 hM90 rfl 8 (by decide) (hg _ wd_572) (fun _ h9 => h9) rfl (by decide +kernel) rfl rfl (Nat.le_of_ble_eq_true rfl) dX11_die_142 (fun H_89 locs hP hD hS => ?_)
                    obtain ⟨M_91, eM_91⟩ : ∃ M1 : Hp, M1 = va_up M_70m b_43 (.inr (9, [.int (nI v90_0), .ref v90_1, .int v90_2, .int v90_3, .int v90_4, .int v90_5, .int v90_6, .int v90_7, va_rf none, .long v90_9, .long v90_10, .long v90_11, .long v90_12, .long v90_13, .long v90_14, .long v90_15])) := ⟨_, rfl⟩
                    have hP : va_P D vwCl ([(xa, .inr (11, [.ref x0, .int (nI x1), .ref x2, .int (nI x3), .ref x4, .ref x5, .ref x6, .int x7, .ref x8, .int x9, .int x10]))] ++ va_pl L M_91) H_89 := by rw [eM_91]; exact hP
                    have hD : va_D A ([(xa, .inr (11, [.ref x0, .int (nI x1), .ref x2, .int (nI x3), .ref x4, .ref x5, .ref x6, .int x7, .ref x8, .int x9, .int x10]))] ++ va_pl L M_91) := by rw [eM_91]; exact hD
                    have hW : WOK cy K L M_91 := by rw [eM_91]; exact hW.up_9 i_81 ⟨v90_0, v90_1, v90_2, v90_3, v90_4, v90_5, v90_6, v90_7, none, v90_9, v90_10, v90_11, v90_12, v90_13, v90_14, v90_15, rfl, h90_0, h90_1, h90_4, iskN.none⟩
                    have hF : fr K0 L0 [2, 9, 61, 62] M0 M_91 := by rw [eM_91]; exact hF.upX hX0 i_81 (by decide)
                    have hT2 : fT 2 K0 L0 [9, 15] M0 M_91 := by rw [eM_91]; exact hT2.neX hX0 i_81 (by decide)
                    have hT9 : fT 9 K0 L0 [5, 6, 7, 8] M0 M_91 := by rw [eM_91]; exact hT9.up (i := 8) hM90 rfl (by decide)
                    have hM_92 : M_91 b_43 = .inr (9, [.int (nI v90_0), .ref v90_1, .int v90_2, .int v90_3, .int v90_4, .int v90_5, .int v90_6, .int v90_7, va_rf none, .long v90_9, .long v90_10, .long v90_11, .long v90_12, .long v90_13, .long v90_14, .long v90_15]) := by rw [eM_91]; exact va_up_self _ _ _
                    have hM_93 : M_91 b_25 = .inr (4, [.int v49_0, .int v49_1, .int v49_2, va_rf v49_3]) := by rw [eM_91, va_up_ne _ _ (i_80.neT i_81 (by decide))]; exact hM_72
                    have hM_94 : M_91 b_5 = .inr (2, [.int v83_0, .int v83_1, .int v83_2, .ref v83_3, .int (nI v83_4), .int (nI v83_5), .ref v83_6, .ref v83_7, .ref v83_8, .int (nI v83_9), .ref v83_10, .int (nI v83_11), .ref v83_12, .ref v83_13, .long v83_14, .int v83_15, .ref v83_16, .ref v83_17, .ref v83_18, .ref v83_19]) := by rw [eM_91, va_up_ne _ _ (i_79.neT i_81 (by decide))]; exact hM83
                    refine lv_aload_n hx hb dX11_die_145 rfl (lv_at hl 4 rfl) ?_
                    refine lv_iload hx hb dX11_die_146 (lv_at hl 0 rfl) ?_
                    have hPc := hP.sub (ws' := [(xa, .inr (11, [.ref x0, .int (nI x1), .ref x2, .int (nI x3), .ref x4, .ref x5, .ref x6, .int x7, .ref x8, .int x9, .int x10]))]) [0] rfl
                    have hDc := hD.sub (ws' := [(xa, .inr (11, [.ref x0, .int (nI x1), .ref x2, .int (nI x3), .ref x4, .ref x5, .ref x6, .int x7, .ref x8, .int x9, .int x10]))]) [0] (by decide) rfl
                    have hKc := hK.sub (tys' := []) [] rfl
                    have hFc := va_free (wc := [(xa, .inr (11, [.ref x0, .int (nI x1), .ref x2, .int (nI x3), .ref x4, .ref x5, .ref x6, .int x7, .ref x8, .int x9, .int x10]))]) hD hS hA [0] rfl
                    refine va_calli (va_runV (As := [.int r_69]) (rest := []) ⟨hx, hb, hml, hown, hg⟩ (k_accept l D H_89.size xa x0 (nI x1) x2 (nI x3) x4 x5 x6 x7 x8 x9 x10 r_69) (cwV 1 hg (gV wd_356 wd_357 wd_358 wd_3 wd_359) rfl rfl rfl (by decide +kernel) ⟨(Nat.le_trans (Nat.le_of_ble_eq_true rfl) hRf), (Nat.le_trans (Nat.le_of_ble_eq_true rfl) hRl)⟩) ⟨Pr.blind, va_recv hK hP (ci := 11) (q0 := 0) rfl rfl, fun U hU hW => ⟨rfl, Pr.at hPc hKc hDc hN hU hW⟩⟩ rfl rfl hl.1 rfl (lv_room (Nat.le_of_ble_eq_true rfl)) dX11_die_148 ⟨(Nat.le_trans (Nat.le_of_ble_eq_true rfl) hRc), (Nat.le_trans (Nat.le_of_ble_eq_true rfl) hRs)⟩) hS (fun q _ h => hFc q h) hFc (fun r_96 M_97 t H_95 locs ht hvm hw hB hz1 hk1 hS => ?_)
                    have hp_98 := hw
                    obtain ⟨hP1, hK1, hD1⟩ := hB
                    rw [ht] at hP1
                    obtain ⟨hP, hD⟩ := va_joinQ (X := [(xa, .inr (11, [.ref x0, .int (nI x1), .ref x2, .int (nI x3), .ref x4, .ref x5, .ref x6, .int x7, .ref x8, .int x9, .int x10]))]) (cx := [(xa, .inr (11, [.ref x0, .int (nI x1), .ref x2, .int (nI x3), .ref x4, .ref x5, .ref x6, .int x7, .ref x8, .int x9, .int x10]))]) (wr := []) (w1 := [(xa, .inr (11, [.ref x0, .int (nI x1), .ref x2, .int (nI x3), .ref x4, .ref x5, .ref x6, .int x7, .ref x8, .int 0, .int (-1)]))]) (pl := va_pl L M_91) hP hD [0] [] rfl rfl (by decide) (by decide) hk1 hFc hP1 hD1
                    have hP : va_P D vwCl ([(xa, .inr (11, [.ref x0, .int (nI x1), .ref x2, .int (nI x3), .ref x4, .ref x5, .ref x6, .int x7, .ref x8, .int 0, .int (-1)]))] ++ va_pl L M_91) H_95 := hP
                    have hD : va_D A ([(xa, .inr (11, [.ref x0, .int (nI x1), .ref x2, .int (nI x3), .ref x4, .ref x5, .ref x6, .int x7, .ref x8, .int 0, .int (-1)]))] ++ va_pl L M_91) := hD
                    have hq := Eq.symm hp_98
                    subst hq
                    rw [hQ]
                    exact W.iret (v := r_69) hx hb hr (fun t ht hW9 => ⟨⟨r_69, (K, L, M_91), rfl, ⟨hX0, hW, hF, hT2, hT9, trivial⟩, ⟨0, (-1), by rw [ht]; exact hP, hD⟩⟩, hS.F ht⟩) hS.2.2 dX11_die_151
                  · have hb_99 := hp_87 b_88 rfl
                    obtain ⟨v101_0, v101_1, v101_2, v101_3, v101_4, v101_5, v101_6, v101_7, v101_8, v101_9, v101_10, v101_11, v101_12, v101_13, v101_14, v101_15, hM101, h101_0, h101_1, h101_4, h101_8⟩ := hW.open_9 i_81
                    refine pg_put (D := D) (ci := 9) (v := .ref b_88) (ty := .object "PartnersBook$Tenure") (C := RX9) (T := TX9) (N := 16) hx hb hg inG9 tyX9 tyX9_ok nmX9 hown hK hP hD hS i_81.1 hM101 rfl 8 (by decide) (hg _ wd_572) (fun _ h9 => h9) rfl (by decide +kernel) rfl rfl (Nat.le_of_ble_eq_true rfl) dX11_die_142 (fun H_100 locs hP hD hS => ?_)
                    obtain ⟨M_102, eM_102⟩ : ∃ M1 : Hp, M1 = va_up M_70m b_43 (.inr (9, [.int (nI v101_0), .ref v101_1, .int v101_2, .int v101_3, .int v101_4, .int v101_5, .int v101_6, .int v101_7, va_rf (some b_88), .long v101_9, .long v101_10, .long v101_11, .long v101_12, .long v101_13, .long v101_14, .long v101_15])) := ⟨_, rfl⟩
                    have hP : va_P D vwCl ([(xa, .inr (11, [.ref x0, .int (nI x1), .ref x2, .int (nI x3), .ref x4, .ref x5, .ref x6, .int x7, .ref x8, .int x9, .int x10]))] ++ va_pl L M_102) H_100 := by rw [eM_102]; exact hP
                    have hD : va_D A ([(xa, .inr (11, [.ref x0, .int (nI x1), .ref x2, .int (nI x3), .ref x4, .ref x5, .ref x6, .int x7, .ref x8, .int x9, .int x10]))] ++ va_pl L M_102) := by rw [eM_102]; exact hD
                    have hW : WOK cy K L M_102 := by rw [eM_102]; exact hW.up_9 i_81 ⟨v101_0, v101_1, v101_2, v101_3, v101_4, v101_5, v101_6, v101_7, (some b_88), v101_9, v101_10, v101_11, v101_12, v101_13, v101_14, v101_15, rfl, h101_0, h101_1, h101_4, (iskN.some hb_99)⟩
                    have hF : fr K0 L0 [2, 9, 61, 62] M0 M_102 := by rw [eM_102]; exact hF.upX hX0 i_81 (by decide)
                    have hT2 : fT 2 K0 L0 [9, 15] M0 M_102 := by rw [eM_102]; exact hT2.neX hX0 i_81 (by decide)
                    have hT9 : fT 9 K0 L0 [5, 6, 7, 8] M0 M_102 := by rw [eM_102]; exact hT9.up (i := 8) hM101 rfl (by decide)
                    have hM_103 : M_102 b_43 = .inr (9, [.int (nI v101_0), .ref v101_1, .int v101_2, .int v101_3, .int v101_4, .int v101_5, .int v101_6, .int v101_7, va_rf (some b_88), .long v101_9, .long v101_10, .long v101_11, .long v101_12, .long v101_13, .long v101_14, .long v101_15]) := by rw [eM_102]; exact va_up_self _ _ _
                    have hM_104 : M_102 b_25 = .inr (4, [.int v49_0, .int v49_1, .int v49_2, va_rf v49_3]) := by rw [eM_102, va_up_ne _ _ (i_80.neT i_81 (by decide))]; exact hM_72
                    have hM_105 : M_102 b_5 = .inr (2, [.int v83_0, .int v83_1, .int v83_2, .ref v83_3, .int (nI v83_4), .int (nI v83_5), .ref v83_6, .ref v83_7, .ref v83_8, .int (nI v83_9), .ref v83_10, .int (nI v83_11), .ref v83_12, .ref v83_13, .long v83_14, .int v83_15, .ref v83_16, .ref v83_17, .ref v83_18, .ref v83_19]) := by rw [eM_102, va_up_ne _ _ (i_79.neT i_81 (by decide))]; exact hM83
                    have hb_106 : iskN K L (some b_88) 9 0 := (iskN.some hb_99)
                    refine lv_aload_n hx hb dX11_die_145 rfl (lv_at hl 4 rfl) ?_
                    refine lv_iload hx hb dX11_die_146 (lv_at hl 0 rfl) ?_
                    have hPc := hP.sub (ws' := [(xa, .inr (11, [.ref x0, .int (nI x1), .ref x2, .int (nI x3), .ref x4, .ref x5, .ref x6, .int x7, .ref x8, .int x9, .int x10]))]) [0] rfl
                    have hDc := hD.sub (ws' := [(xa, .inr (11, [.ref x0, .int (nI x1), .ref x2, .int (nI x3), .ref x4, .ref x5, .ref x6, .int x7, .ref x8, .int x9, .int x10]))]) [0] (by decide) rfl
                    have hKc := hK.sub (tys' := []) [] rfl
                    have hFc := va_free (wc := [(xa, .inr (11, [.ref x0, .int (nI x1), .ref x2, .int (nI x3), .ref x4, .ref x5, .ref x6, .int x7, .ref x8, .int x9, .int x10]))]) hD hS hA [0] rfl
                    refine va_calli (va_runV (As := [.int r_69]) (rest := []) ⟨hx, hb, hml, hown, hg⟩ (k_accept l D H_100.size xa x0 (nI x1) x2 (nI x3) x4 x5 x6 x7 x8 x9 x10 r_69) (cwV 1 hg (gV wd_356 wd_357 wd_358 wd_3 wd_359) rfl rfl rfl (by decide +kernel) ⟨(Nat.le_trans (Nat.le_of_ble_eq_true rfl) hRf), (Nat.le_trans (Nat.le_of_ble_eq_true rfl) hRl)⟩) ⟨Pr.blind, va_recv hK hP (ci := 11) (q0 := 0) rfl rfl, fun U hU hW => ⟨rfl, Pr.at hPc hKc hDc hN hU hW⟩⟩ rfl rfl hl.1 rfl (lv_room (Nat.le_of_ble_eq_true rfl)) dX11_die_148 ⟨(Nat.le_trans (Nat.le_of_ble_eq_true rfl) hRc), (Nat.le_trans (Nat.le_of_ble_eq_true rfl) hRs)⟩) hS (fun q _ h => hFc q h) hFc (fun r_108 M_109 t H_107 locs ht hvm hw hB hz1 hk1 hS => ?_)
                    have hp_110 := hw
                    obtain ⟨hP1, hK1, hD1⟩ := hB
                    rw [ht] at hP1
                    obtain ⟨hP, hD⟩ := va_joinQ (X := [(xa, .inr (11, [.ref x0, .int (nI x1), .ref x2, .int (nI x3), .ref x4, .ref x5, .ref x6, .int x7, .ref x8, .int x9, .int x10]))]) (cx := [(xa, .inr (11, [.ref x0, .int (nI x1), .ref x2, .int (nI x3), .ref x4, .ref x5, .ref x6, .int x7, .ref x8, .int x9, .int x10]))]) (wr := []) (w1 := [(xa, .inr (11, [.ref x0, .int (nI x1), .ref x2, .int (nI x3), .ref x4, .ref x5, .ref x6, .int x7, .ref x8, .int 0, .int (-1)]))]) (pl := va_pl L M_102) hP hD [0] [] rfl rfl (by decide) (by decide) hk1 hFc hP1 hD1
                    have hP : va_P D vwCl ([(xa, .inr (11, [.ref x0, .int (nI x1), .ref x2, .int (nI x3), .ref x4, .ref x5, .ref x6, .int x7, .ref x8, .int 0, .int (-1)]))] ++ va_pl L M_102) H_107 := hP
                    have hD : va_D A ([(xa, .inr (11, [.ref x0, .int (nI x1), .ref x2, .int (nI x3), .ref x4, .ref x5, .ref x6, .int x7, .ref x8, .int 0, .int (-1)]))] ++ va_pl L M_102) := hD
                    have hq := Eq.symm hp_110
                    subst hq
                    rw [hQ]
                    exact W.iret (v := r_69) hx hb hr (fun t ht hW9 => ⟨⟨r_69, (K, L, M_102), rfl, ⟨hX0, hW, hF, hT2, hT9, trivial⟩, ⟨0, (-1), by rw [ht]; exact hP, hD⟩⟩, hS.F ht⟩) hS.2.2 dX11_die_151
                · have hz := rfl (a := 0)
                  have n_111 : ¬ (v38_9 < 24) := fun q => c_60 ((iLT (a := v38_9) (b := 24) (by omega) (by omega)).mpr q)
                  refine lv_aload_n hx hb dX11_die_106 rfl (lv_at hl 3 rfl) ?_
                  refine lv_bipush (v := 9) hx hb dX11_die_107 (by decide) ?_
                  have hPc := hP.sub (ws' := [(xa, .inr (11, [.ref x0, .int (nI x1), .ref x2, .int (nI x3), .ref x4, .ref x5, .ref x6, .int x7, .ref x8, .int x9, .int x10]))]) [0] rfl
                  have hDc := hD.sub (ws' := [(xa, .inr (11, [.ref x0, .int (nI x1), .ref x2, .int (nI x3), .ref x4, .ref x5, .ref x6, .int x7, .ref x8, .int x9, .int x10]))]) [0] (by decide) rfl
                  have hKc := hK.sub (tys' := []) [] rfl
                  have hFc := va_free (wc := [(xa, .inr (11, [.ref x0, .int (nI x1), .ref x2, .int (nI x3), .ref x4, .ref x5, .ref x6, .int x7, .ref x8, .int x9, .int x10]))]) hD hS hA [0] rfl
                  refine va_calli (va_runV (As := [.int 9]) (rest := []) ⟨hx, hb, hml, hown, hg⟩ (k_refuse l D H_51.size xa x0 (nI x1) x2 (nI x3) x4 x5 x6 x7 x8 x9 x10 9) (cwV 1 hg (gV wd_344 wd_345 wd_346 wd_3 wd_347) rfl rfl rfl (by decide +kernel) ⟨(Nat.le_trans (Nat.le_of_ble_eq_true rfl) hRf), (Nat.le_trans (Nat.le_of_ble_eq_true rfl) hRl)⟩) ⟨Pr.blind, va_recv hK hP (ci := 11) (q0 := 0) rfl rfl, fun U hU hW => ⟨rfl, Pr.at hPc hKc hDc hN hU hW⟩⟩ rfl rfl hl.1 rfl (lv_room (Nat.le_of_ble_eq_true rfl)) dX11_die_109 ⟨(Nat.le_trans (Nat.le_of_ble_eq_true rfl) hRc), (Nat.le_trans (Nat.le_of_ble_eq_true rfl) hRs)⟩) hS (fun q _ h => hFc q h) hFc (fun r_113 M_114 t H_112 locs ht hvm hw hB hz1 hk1 hS => ?_)
                  have hp_115 := hw
                  obtain ⟨hP1, hK1, hD1⟩ := hB
                  rw [ht] at hP1
                  obtain ⟨hP, hD⟩ := va_joinQ (X := [(xa, .inr (11, [.ref x0, .int (nI x1), .ref x2, .int (nI x3), .ref x4, .ref x5, .ref x6, .int x7, .ref x8, .int x9, .int x10]))]) (cx := [(xa, .inr (11, [.ref x0, .int (nI x1), .ref x2, .int (nI x3), .ref x4, .ref x5, .ref x6, .int x7, .ref x8, .int x9, .int x10]))]) (wr := []) (w1 := [(xa, .inr (11, [.ref x0, .int (nI x1), .ref x2, .int (nI x3), .ref x4, .ref x5, .ref x6, .int x7, .ref x8, .int 9, .int (-1)]))]) (pl := va_pl L M) hP hD [0] [] rfl rfl (by decide) (by decide) hk1 hFc hP1 hD1
                  have hP : va_P D vwCl ([(xa, .inr (11, [.ref x0, .int (nI x1), .ref x2, .int (nI x3), .ref x4, .ref x5, .ref x6, .int x7, .ref x8, .int 9, .int (-1)]))] ++ va_pl L M) H_112 := hP
                  have hD : va_D A ([(xa, .inr (11, [.ref x0, .int (nI x1), .ref x2, .int (nI x3), .ref x4, .ref x5, .ref x6, .int x7, .ref x8, .int 9, .int (-1)]))] ++ va_pl L M) := hD
                  have hq := Eq.symm hp_115
                  subst hq
                  refine W.widen (k := 1) (n := 16) (Nat.le_of_ble_eq_true rfl) (Nat.le_of_ble_eq_true rfl) ?_
                  rw [hQ]
                  exact W.iret (v := (-1)) hx hb hr (fun t ht hW9 => ⟨⟨(-1), (K, L, M), rfl, ⟨hX0, hW, hF, hT2, hT9, trivial⟩, ⟨9, (-1), by rw [ht]; exact hP, hD⟩⟩, hS.F ht⟩) hS.2.2 dX11_die_112
              · have hz := rfl (a := 0)
                refine lv_aload_n hx hb dX11_die_90 rfl (lv_at hl 3 rfl) ?_
                refine lv_iconst (v := 3) hx hb dX11_die_91 (by decide) ?_
                have hPc := hP.sub (ws' := [(xa, .inr (11, [.ref x0, .int (nI x1), .ref x2, .int (nI x3), .ref x4, .ref x5, .ref x6, .int x7, .ref x8, .int x9, .int x10]))]) [0] rfl
                have hDc := hD.sub (ws' := [(xa, .inr (11, [.ref x0, .int (nI x1), .ref x2, .int (nI x3), .ref x4, .ref x5, .ref x6, .int x7, .ref x8, .int x9, .int x10]))]) [0] (by decide) rfl
                have hKc := hK.sub (tys' := []) [] rfl
                have hFc := va_free (wc := [(xa, .inr (11, [.ref x0, .int (nI x1), .ref x2, .int (nI x3), .ref x4, .ref x5, .ref x6, .int x7, .ref x8, .int x9, .int x10]))]) hD hS hA [0] rfl
                refine va_calli (va_runV (As := [.int 3]) (rest := []) ⟨hx, hb, hml, hown, hg⟩ (k_refuse l D H_51.size xa x0 (nI x1) x2 (nI x3) x4 x5 x6 x7 x8 x9 x10 3) (cwV 1 hg (gV wd_344 wd_345 wd_346 wd_3 wd_347) rfl rfl rfl (by decide +kernel) ⟨(Nat.le_trans (Nat.le_of_ble_eq_true rfl) hRf), (Nat.le_trans (Nat.le_of_ble_eq_true rfl) hRl)⟩) ⟨Pr.blind, va_recv hK hP (ci := 11) (q0 := 0) rfl rfl, fun U hU hW => ⟨rfl, Pr.at hPc hKc hDc hN hU hW⟩⟩ rfl rfl hl.1 rfl (lv_room (Nat.le_of_ble_eq_true rfl)) dX11_die_92 ⟨(Nat.le_trans (Nat.le_of_ble_eq_true rfl) hRc), (Nat.le_trans (Nat.le_of_ble_eq_true rfl) hRs)⟩) hS (fun q _ h => hFc q h) hFc (fun r_117 M_118 t H_116 locs ht hvm hw hB hz1 hk1 hS => ?_)
                have hp_119 := hw
                obtain ⟨hP1, hK1, hD1⟩ := hB
                rw [ht] at hP1
                obtain ⟨hP, hD⟩ := va_joinQ (X := [(xa, .inr (11, [.ref x0, .int (nI x1), .ref x2, .int (nI x3), .ref x4, .ref x5, .ref x6, .int x7, .ref x8, .int x9, .int x10]))]) (cx := [(xa, .inr (11, [.ref x0, .int (nI x1), .ref x2, .int (nI x3), .ref x4, .ref x5, .ref x6, .int x7, .ref x8, .int x9, .int x10]))]) (wr := []) (w1 := [(xa, .inr (11, [.ref x0, .int (nI x1), .ref x2, .int (nI x3), .ref x4, .ref x5, .ref x6, .int x7, .ref x8, .int 3, .int (-1)]))]) (pl := va_pl L M) hP hD [0] [] rfl rfl (by decide) (by decide) hk1 hFc hP1 hD1
                have hP : va_P D vwCl ([(xa, .inr (11, [.ref x0, .int (nI x1), .ref x2, .int (nI x3), .ref x4, .ref x5, .ref x6, .int x7, .ref x8, .int 3, .int (-1)]))] ++ va_pl L M) H_116 := hP
                have hD : va_D A ([(xa, .inr (11, [.ref x0, .int (nI x1), .ref x2, .int (nI x3), .ref x4, .ref x5, .ref x6, .int x7, .ref x8, .int 3, .int (-1)]))] ++ va_pl L M) := hD
                have hq := Eq.symm hp_119
                subst hq
                refine W.widen (k := 1) (n := 16) (Nat.le_of_ble_eq_true rfl) (Nat.le_of_ble_eq_true rfl) ?_
                rw [hQ]
                exact W.iret (v := (-1)) hx hb hr (fun t ht hW9 => ⟨⟨(-1), (K, L, M), rfl, ⟨hX0, hW, hF, hT2, hT9, trivial⟩, ⟨3, (-1), by rw [ht]; exact hP, hD⟩⟩, hS.F ht⟩) hS.2.2 dX11_die_95
            · have hz := rfl (a := 0)
              refine lv_if_eq (tgt := 90) hx hb dX11_die_78 (by decide) (fun _ => ?_) (fun c_120 => absurd c_120 (by decide))
              refine lv_aload_n hx hb dX11_die_90 rfl (lv_at hl 3 rfl) ?_
              refine lv_iconst (v := 3) hx hb dX11_die_91 (by decide) ?_
              have hPc := hP.sub (ws' := [(xa, .inr (11, [.ref x0, .int (nI x1), .ref x2, .int (nI x3), .ref x4, .ref x5, .ref x6, .int x7, .ref x8, .int x9, .int x10]))]) [0] rfl
              have hDc := hD.sub (ws' := [(xa, .inr (11, [.ref x0, .int (nI x1), .ref x2, .int (nI x3), .ref x4, .ref x5, .ref x6, .int x7, .ref x8, .int x9, .int x10]))]) [0] (by decide) rfl
              have hKc := hK.sub (tys' := []) [] rfl
              have hFc := va_free (wc := [(xa, .inr (11, [.ref x0, .int (nI x1), .ref x2, .int (nI x3), .ref x4, .ref x5, .ref x6, .int x7, .ref x8, .int x9, .int x10]))]) hD hS hA [0] rfl
              refine va_calli (va_runV (As := [.int 3]) (rest := []) ⟨hx, hb, hml, hown, hg⟩ (k_refuse l D H_51.size xa x0 (nI x1) x2 (nI x3) x4 x5 x6 x7 x8 x9 x10 3) (cwV 1 hg (gV wd_344 wd_345 wd_346 wd_3 wd_347) rfl rfl rfl (by decide +kernel) ⟨(Nat.le_trans (Nat.le_of_ble_eq_true rfl) hRf), (Nat.le_trans (Nat.le_of_ble_eq_true rfl) hRl)⟩) ⟨Pr.blind, va_recv hK hP (ci := 11) (q0 := 0) rfl rfl, fun U hU hW => ⟨rfl, Pr.at hPc hKc hDc hN hU hW⟩⟩ rfl rfl hl.1 rfl (lv_room (Nat.le_of_ble_eq_true rfl)) dX11_die_92 ⟨(Nat.le_trans (Nat.le_of_ble_eq_true rfl) hRc), (Nat.le_trans (Nat.le_of_ble_eq_true rfl) hRs)⟩) hS (fun q _ h => hFc q h) hFc (fun r_122 M_123 t H_121 locs ht hvm hw hB hz1 hk1 hS => ?_)
              have hp_124 := hw
              obtain ⟨hP1, hK1, hD1⟩ := hB
              rw [ht] at hP1
              obtain ⟨hP, hD⟩ := va_joinQ (X := [(xa, .inr (11, [.ref x0, .int (nI x1), .ref x2, .int (nI x3), .ref x4, .ref x5, .ref x6, .int x7, .ref x8, .int x9, .int x10]))]) (cx := [(xa, .inr (11, [.ref x0, .int (nI x1), .ref x2, .int (nI x3), .ref x4, .ref x5, .ref x6, .int x7, .ref x8, .int x9, .int x10]))]) (wr := []) (w1 := [(xa, .inr (11, [.ref x0, .int (nI x1), .ref x2, .int (nI x3), .ref x4, .ref x5, .ref x6, .int x7, .ref x8, .int 3, .int (-1)]))]) (pl := va_pl L M) hP hD [0] [] rfl rfl (by decide) (by decide) hk1 hFc hP1 hD1
              have hP : va_P D vwCl ([(xa, .inr (11, [.ref x0, .int (nI x1), .ref x2, .int (nI x3), .ref x4, .ref x5, .ref x6, .int x7, .ref x8, .int 3, .int (-1)]))] ++ va_pl L M) H_121 := hP
              have hD : va_D A ([(xa, .inr (11, [.ref x0, .int (nI x1), .ref x2, .int (nI x3), .ref x4, .ref x5, .ref x6, .int x7, .ref x8, .int 3, .int (-1)]))] ++ va_pl L M) := hD
              have hq := Eq.symm hp_124
              subst hq
              refine W.widen (k := 1) (n := 16) (Nat.le_of_ble_eq_true rfl) (Nat.le_of_ble_eq_true rfl) ?_
              rw [hQ]
              exact W.iret (v := (-1)) hx hb hr (fun t ht hW9 => ⟨⟨(-1), (K, L, M), rfl, ⟨hX0, hW, hF, hT2, hT9, trivial⟩, ⟨3, (-1), by rw [ht]; exact hP, hD⟩⟩, hS.F ht⟩) hS.2.2 dX11_die_95
          · have hz := rfl (a := 0)
            refine lv_aload_n hx hb dX11_die_66 rfl (lv_at hl 3 rfl) ?_
            refine lv_iconst (v := 2) hx hb dX11_die_67 (by decide) ?_
            have hPc := hP.sub (ws' := [(xa, .inr (11, [.ref x0, .int (nI x1), .ref x2, .int (nI x3), .ref x4, .ref x5, .ref x6, .int x7, .ref x8, .int x9, .int x10]))]) [0] rfl
            have hDc := hD.sub (ws' := [(xa, .inr (11, [.ref x0, .int (nI x1), .ref x2, .int (nI x3), .ref x4, .ref x5, .ref x6, .int x7, .ref x8, .int x9, .int x10]))]) [0] (by decide) rfl
            have hKc := hK.sub (tys' := []) [] rfl
            have hFc := va_free (wc := [(xa, .inr (11, [.ref x0, .int (nI x1), .ref x2, .int (nI x3), .ref x4, .ref x5, .ref x6, .int x7, .ref x8, .int x9, .int x10]))]) hD hS hA [0] rfl
            refine va_calli (va_runV (As := [.int 2]) (rest := []) ⟨hx, hb, hml, hown, hg⟩ (k_refuse l D H_39.size xa x0 (nI x1) x2 (nI x3) x4 x5 x6 x7 x8 x9 x10 2) (cwV 1 hg (gV wd_344 wd_345 wd_346 wd_3 wd_347) rfl rfl rfl (by decide +kernel) ⟨(Nat.le_trans (Nat.le_of_ble_eq_true rfl) hRf), (Nat.le_trans (Nat.le_of_ble_eq_true rfl) hRl)⟩) ⟨Pr.blind, va_recv hK hP (ci := 11) (q0 := 0) rfl rfl, fun U hU hW => ⟨rfl, Pr.at hPc hKc hDc hN hU hW⟩⟩ rfl rfl hl.1 rfl (lv_room (Nat.le_of_ble_eq_true rfl)) dX11_die_68 ⟨(Nat.le_trans (Nat.le_of_ble_eq_true rfl) hRc), (Nat.le_trans (Nat.le_of_ble_eq_true rfl) hRs)⟩) hS (fun q _ h => hFc q h) hFc (fun r_126 M_127 t H_125 locs ht hvm hw hB hz1 hk1 hS => ?_)
            have hp_128 := hw
            obtain ⟨hP1, hK1, hD1⟩ := hB
            rw [ht] at hP1
            obtain ⟨hP, hD⟩ := va_joinQ (X := [(xa, .inr (11, [.ref x0, .int (nI x1), .ref x2, .int (nI x3), .ref x4, .ref x5, .ref x6, .int x7, .ref x8, .int x9, .int x10]))]) (cx := [(xa, .inr (11, [.ref x0, .int (nI x1), .ref x2, .int (nI x3), .ref x4, .ref x5, .ref x6, .int x7, .ref x8, .int x9, .int x10]))]) (wr := []) (w1 := [(xa, .inr (11, [.ref x0, .int (nI x1), .ref x2, .int (nI x3), .ref x4, .ref x5, .ref x6, .int x7, .ref x8, .int 2, .int (-1)]))]) (pl := va_pl L M) hP hD [0] [] rfl rfl (by decide) (by decide) hk1 hFc hP1 hD1
            have hP : va_P D vwCl ([(xa, .inr (11, [.ref x0, .int (nI x1), .ref x2, .int (nI x3), .ref x4, .ref x5, .ref x6, .int x7, .ref x8, .int 2, .int (-1)]))] ++ va_pl L M) H_125 := hP
            have hD : va_D A ([(xa, .inr (11, [.ref x0, .int (nI x1), .ref x2, .int (nI x3), .ref x4, .ref x5, .ref x6, .int x7, .ref x8, .int 2, .int (-1)]))] ++ va_pl L M) := hD
            have hq := Eq.symm hp_128
            subst hq
            refine W.widen (k := 1) (n := 16) (Nat.le_of_ble_eq_true rfl) (Nat.le_of_ble_eq_true rfl) ?_
            rw [hQ]
            exact W.iret (v := (-1)) hx hb hr (fun t ht hW9 => ⟨⟨(-1), (K, L, M), rfl, ⟨hX0, hW, hF, hT2, hT9, trivial⟩, ⟨2, (-1), by rw [ht]; exact hP, hD⟩⟩, hS.F ht⟩) hS.2.2 dX11_die_71
      · have hz := rfl (a := 0)
        refine lv_if_ne (tgt := 38) hx hb dX11_die_29 (by decide) (fun c_129 => absurd c_129 (by decide)) (fun _ => ?_)
        refine lv_aload_n hx hb dX11_die_32 rfl (lv_at hl 2 rfl) ?_
        refine lv_iconst (v := 1) hx hb dX11_die_33 (by decide) ?_
        have hPc := hP.sub (ws' := [(xa, .inr (11, [.ref x0, .int (nI x1), .ref x2, .int (nI x3), .ref x4, .ref x5, .ref x6, .int x7, .ref x8, .int x9, .int x10]))]) [0] rfl
        have hDc := hD.sub (ws' := [(xa, .inr (11, [.ref x0, .int (nI x1), .ref x2, .int (nI x3), .ref x4, .ref x5, .ref x6, .int x7, .ref x8, .int x9, .int x10]))]) [0] (by decide) rfl
        have hKc := hK.sub (tys' := []) [] rfl
        have hFc := va_free (wc := [(xa, .inr (11, [.ref x0, .int (nI x1), .ref x2, .int (nI x3), .ref x4, .ref x5, .ref x6, .int x7, .ref x8, .int x9, .int x10]))]) hD hS hA [0] rfl
        refine va_calli (va_runV (As := [.int 1]) (rest := []) ⟨hx, hb, hml, hown, hg⟩ (k_refuse l D H_31.size xa x0 (nI x1) x2 (nI x3) x4 x5 x6 x7 x8 x9 x10 1) (cwV 1 hg (gV wd_344 wd_345 wd_346 wd_3 wd_347) rfl rfl rfl (by decide +kernel) ⟨(Nat.le_trans (Nat.le_of_ble_eq_true rfl) hRf), (Nat.le_trans (Nat.le_of_ble_eq_true rfl) hRl)⟩) ⟨Pr.blind, va_recv hK hP (ci := 11) (q0 := 0) rfl rfl, fun U hU hW => ⟨rfl, Pr.at hPc hKc hDc hN hU hW⟩⟩ rfl rfl hl.1 rfl (lv_room (Nat.le_of_ble_eq_true rfl)) dX11_die_34 ⟨(Nat.le_trans (Nat.le_of_ble_eq_true rfl) hRc), (Nat.le_trans (Nat.le_of_ble_eq_true rfl) hRs)⟩) hS (fun q _ h => hFc q h) hFc (fun r_131 M_132 t H_130 locs ht hvm hw hB hz1 hk1 hS => ?_)
        have hp_133 := hw
        obtain ⟨hP1, hK1, hD1⟩ := hB
        rw [ht] at hP1
        obtain ⟨hP, hD⟩ := va_joinQ (X := [(xa, .inr (11, [.ref x0, .int (nI x1), .ref x2, .int (nI x3), .ref x4, .ref x5, .ref x6, .int x7, .ref x8, .int x9, .int x10]))]) (cx := [(xa, .inr (11, [.ref x0, .int (nI x1), .ref x2, .int (nI x3), .ref x4, .ref x5, .ref x6, .int x7, .ref x8, .int x9, .int x10]))]) (wr := []) (w1 := [(xa, .inr (11, [.ref x0, .int (nI x1), .ref x2, .int (nI x3), .ref x4, .ref x5, .ref x6, .int x7, .ref x8, .int 1, .int (-1)]))]) (pl := va_pl L M) hP hD [0] [] rfl rfl (by decide) (by decide) hk1 hFc hP1 hD1
        have hP : va_P D vwCl ([(xa, .inr (11, [.ref x0, .int (nI x1), .ref x2, .int (nI x3), .ref x4, .ref x5, .ref x6, .int x7, .ref x8, .int 1, .int (-1)]))] ++ va_pl L M) H_130 := hP
        have hD : va_D A ([(xa, .inr (11, [.ref x0, .int (nI x1), .ref x2, .int (nI x3), .ref x4, .ref x5, .ref x6, .int x7, .ref x8, .int 1, .int (-1)]))] ++ va_pl L M) := hD
        have hq := Eq.symm hp_133
        subst hq
        refine W.widen (k := 1) (n := 16) (Nat.le_of_ble_eq_true rfl) (Nat.le_of_ble_eq_true rfl) ?_
        rw [hQ]
        exact W.iret (v := (-1)) hx hb hr (fun t ht hW9 => ⟨⟨(-1), (K, L, M), rfl, ⟨hX0, hW, hF, hT2, hT9, trivial⟩, ⟨1, (-1), by rw [ht]; exact hP, hD⟩⟩, hS.F ht⟩) hS.2.2 dX11_die_37
set_option maxHeartbeats 4000000 in
set_option maxRecDepth 100000 in
theorem k_Rule_n (l : Launch) (D : va_G) (sz : Nat) (oa : Nat) (k1 : Int32) : Met l yX6_init (wsM yX6_init cX6_init 3 none) ({ frames := 1, cells := 1, slots := 24, locals := 12 }) (va_Pc [.ref oa, .int k1, .null] (Pr D [(oa, .inr (6, [.int 0, .int 0, .null]))] [] sz)) (va_Qv (fun _ : Unit => True) (fun _ t => ∃ (e0 : Nat) (c0 : ClassId), Po D [(oa, .inr (6, [.int k1, .int 0, .ref e0])), (e0, .inl (c0, 24, .inl (fun _ => 0)))] [(c0, .int)] (va_A [(oa, .inr (6, [.int 0, .int 0, .null]))] sz) t) (va_A [(oa, .inr (6, [.int 0, .int 0, .null]))] sz)) 1 24 (va_A [(oa, .inr (6, [.int 0, .int 0, .null]))] sz) := by
  refine Met.ofW (cc := cX6_init) (maxL := 3) (ret := none) (by decide) rfl ?_
  intro p e s m args below meth c s₁ B hml hv
  obtain ⟨rfl, hsz, hP, hK, hD0, hN⟩ := hv
  have hx := B.exec
  have hb := B.bytes
  have hr := B.returns
  have hts := atoms_spec (ws := (wsM yX6_init cX6_init 3 none)) B.pre
  have hg : ∀ w ∈ lw_good, w.before _ s = true := fun w h => hts w (List.mem_cons_of_mem _ h)
  have hown : s.vm.findClass RX6 = some m.cls := findClass_of_methodNamed B.named
  have hlocks := B.notSynchronized
  have hin : meth.name = "<init>" := (name_of_methodNamed B.named B.method).1
  subst hsz
  have hD := hD0.self (sz := s.heap.size)
  generalize hAe : va_A [(oa, .inr (6, [.int 0, .int 0, .null]))] s.heap.size = A at hD ⊢
  have hA : ∀ q : Nat, s.heap.size ≤ q → A q := fun q h => by rw [← hAe]; exact Or.inr h
  have hS : va_S A s.heap s.heap [] := va_S.rf
  have hP : va_P D vwCl [(oa, .inr (6, [.int 0, .int 0, .null]))] s.heap := hP
  have hl := lv_entry ([.ref oa, .int k1, .null]) (n := 3) (Nat.le_of_ble_eq_true rfl)
  rw [lg_entry_eq]
  generalize (lg_sl ([.ref oa, .int k1, .null]) ++ List.replicate (3 - (lg_sl ([.ref oa, .int k1, .null])).length) Slot.unset).toArray = ls at hl ⊢
  have hl : lv_has ls 3 [(0, .ref oa), (1, .int k1), (2, .null)] := hl
  refine lv_aload_n hx hb dX6_init_0 rfl (lv_at hl 0 rfl) ?_
  refine W.objInit hx hb hown (hg _ wd_573) (hg _ wd_525) (hg _ wd_obj) rfl (by rw [hml]; exact hl.1) rfl dX6_init_1 (Nat.le_of_ble_eq_true rfl) (Nat.le_of_ble_eq_true rfl) ?_
  refine W.eq (g2 := F0 m 4 ls []) rfl ?_
  refine lv_aload_n hx hb dX6_init_4 rfl (lv_at hl 0 rfl) ?_
  refine lv_iload_n hx hb dX6_init_5 rfl (lv_at hl 1 rfl) ?_
  refine va_putF (D := D) (ci := 6) (v := .int k1) (ty := .int) (C := RX6) (T := TX6) (N := 3) hx hb hg inG6 tyX6 tyX6_ok nmX6 hown hK hP hD hS 0 rfl rfl 0 (by decide) (hg _ wd_574) (fun _ h9 => h9) rfl hin rfl (by decide +kernel) rfl rfl (Nat.le_of_ble_eq_true rfl) dX6_init_6 (fun H_1 locs hP hD hS => ?_)
  have hP : va_P D vwCl [(oa, .inr (6, [.int k1, .int 0, .null]))] H_1 := hP
  have hD : va_D A [(oa, .inr (6, [.int k1, .int 0, .null]))] := hD
  refine lv_aload_n hx hb dX6_init_9 rfl (lv_at hl 0 rfl) ?_
  refine lv_bipush (v := 24) hx hb dX6_init_10 (by decide) ?_
  refine va_newa (atype := .int) (ty := .int) (a0 := (24, .inl (fun _ => 0))) hx hb (hg _ wd_531) rfl hK hP hD hS hA (fun cA => rfl) (by decide) (by decide) (Nat.le_of_ble_eq_true rfl) (Nat.le_of_ble_eq_true rfl) (Nat.le_of_ble_eq_true rfl) dX6_init_12 (fun q_2 cA_4 H_3 hK hP hD hS => ?_)
  have hK : va_K D vwCl [(cA_4, .int)] s := hK
  have hP : va_P D vwCl [(oa, .inr (6, [.int k1, .int 0, .null])), (q_2, .inl (cA_4, 24, .inl (fun _ => 0)))] H_3 := hP
  have hD : va_D A [(oa, .inr (6, [.int k1, .int 0, .null])), (q_2, .inl (cA_4, 24, .inl (fun _ => 0)))] := hD
  refine W.widen (k := 1) (n := 24) (Nat.le_of_ble_eq_true rfl) (Nat.le_of_ble_eq_true rfl) ?_
  refine va_putF (D := D) (ci := 6) (v := .ref q_2) (ty := .array .int) (C := RX6) (T := TX6) (N := 3) hx hb hg inG6 tyX6 tyX6_ok nmX6 hown hK hP hD hS 0 rfl rfl 2 (by decide) (hg _ wd_93) (fun _ h9 => h9) rfl hin rfl (by decide +kernel) rfl rfl (Nat.le_of_ble_eq_true rfl) dX6_init_14 (fun H_5 locs hP hD hS => ?_)
  have hP : va_P D vwCl [(oa, .inr (6, [.int k1, .int 0, .ref q_2])), (q_2, .inl (cA_4, 24, .inl (fun _ => 0)))] H_5 := hP
  have hD : va_D A [(oa, .inr (6, [.int k1, .int 0, .ref q_2])), (q_2, .inl (cA_4, 24, .inl (fun _ => 0)))] := hD
  refine lv_aload_nN hx hb dX6_init_17 rfl (lv_at hl 2 rfl) ?_
  refine lv_ifnullN (tgt := 47) hx hb dX6_init_18 (by decide) ?_
  have hP9 := hP.sub (ws' := [(oa, .inr (6, [.int k1, .int 0, .ref q_2])), (q_2, .inl (cA_4, 24, .inl (fun _ => 0)))]) [0, 1] rfl
  have hD9 := hD.sub (ws' := [(oa, .inr (6, [.int k1, .int 0, .ref q_2])), (q_2, .inl (cA_4, 24, .inl (fun _ => 0)))]) [0, 1] (by decide) rfl
  have hK9 := hK.sub (tys' := [(cA_4, .int)]) [0] rfl
  exact W.vret hx hb hr (fun t ht hW => ⟨⟨(), rfl, trivial, ⟨q_2, cA_4, by rw [ht]; exact hP9, va_K.moved hW.alike hK9, hD9⟩⟩, hS.F ht⟩) hS.2.2 dX6_init_47
set_option maxHeartbeats 4000000 in
set_option maxRecDepth 100000 in
theorem k_Rule_s (l : Launch) (D : va_G) (cy : Nat → ClassId) (K : Kp) (L : List Nat) (M : Hp) (sz : Nat) (oa : Nat) (k1 : Int32) (k2 : Nat) (hW : WOK cy K L M) (ik2 : isk K L k2 6 0) : Met l yX6_init (wsM yX6_init cX6_init 3 none) ({ frames := 1, cells := 1, slots := 24, locals := 40 }) (va_Pc [.ref oa, .int k1, .ref k2] (PG D cy [(oa, .inr (6, [.int 0, .int 0, .null]))] L M sz)) (va_Qv (fun (_ : Unit) => True) (fun _ t => ∃ (w1 : Int32) (e0 : Nat) (g9 : Nat → Int32), PQ D [(oa, .inr (6, [.int k1, .int w1, .ref e0])), (e0, .inl ((cy 14), 24, .inl (g9)))] L M (va_A ([(oa, .inr (6, [.int 0, .int 0, .null]))] ++ va_pl L M) sz) t) (va_A ([(oa, .inr (6, [.int 0, .int 0, .null]))] ++ va_pl L M) sz)) 1 24 (va_A ([(oa, .inr (6, [.int 0, .int 0, .null]))] ++ va_pl L M) sz) := by
  refine Met.ofW (cc := cX6_init) (maxL := 3) (ret := none) (by decide) rfl ?_
  intro p e s m args below meth c s₁ B hml hv
  obtain ⟨rfl, hsz, hP, hK, hD0, hN⟩ := hv
  have hx := B.exec
  have hb := B.bytes
  have hr := B.returns
  have hts := atoms_spec (ws := (wsM yX6_init cX6_init 3 none)) B.pre
  have hg : ∀ w ∈ lw_good, w.before _ s = true := fun w h => hts w (List.mem_cons_of_mem _ h)
  have hown : s.vm.findClass RX6 = some m.cls := findClass_of_methodNamed B.named
  have hlocks := B.notSynchronized
  subst hsz
  have hD := hD0.self (sz := s.heap.size)
  generalize hAe : va_A ([(oa, .inr (6, [.int 0, .int 0, .null]))] ++ va_pl L M) s.heap.size = A at hD ⊢
  have hA : ∀ q : Nat, s.heap.size ≤ q → A q := fun q h => by rw [← hAe]; exact Or.inr h
  have hS : va_S A s.heap s.heap [] := va_S.rf
  have hl := lv_entry ([.ref oa, .int k1, .ref k2]) (n := 3) (Nat.le_of_ble_eq_true rfl)
  rw [lg_entry_eq]
  generalize (lg_sl ([.ref oa, .int k1, .ref k2]) ++ List.replicate (3 - (lg_sl ([.ref oa, .int k1, .ref k2])).length) Slot.unset).toArray = ls at hl ⊢
  refine W.nameQ (fun Q hQ => ?_)
  refine W.nameR (fun R hR => ?_)
  have hRf : 1 ≤ R.frames := by rw [hR]; exact Nat.le_of_ble_eq_true rfl
  have hRl : 40 ≤ R.locals := by rw [hR]; exact Nat.le_of_ble_eq_true rfl
  have hRc : 1 ≤ R.cells := by rw [hR]; exact Nat.le_of_ble_eq_true rfl
  have hRs : 24 ≤ R.slots := by rw [hR]; exact Nat.le_of_ble_eq_true rfl
  have hin : meth.name = "<init>" := (name_of_methodNamed B.named B.method).1
  have hl : lv_has ls 3 [(0, .ref oa), (1, .int k1), (2, .ref k2)] := hl
  refine lv_aload_n hx hb dX6_init_0 rfl (lv_at hl 0 rfl) ?_
  refine W.objInit hx hb hown (hg _ wd_573) (hg _ wd_525) (hg _ wd_obj) rfl (by rw [hml]; exact hl.1) rfl dX6_init_1 (Nat.le_trans (Nat.le_of_ble_eq_true rfl) hRf) (Nat.le_trans (Nat.le_of_ble_eq_true rfl) hRl) ?_
  refine W.eq (g2 := F0 m 4 ls []) rfl ?_
  refine lv_aload_n hx hb dX6_init_4 rfl (lv_at hl 0 rfl) ?_
  refine lv_iload_n hx hb dX6_init_5 rfl (lv_at hl 1 rfl) ?_
  refine va_putF (D := D) (ci := 6) (v := .int k1) (ty := .int) (C := RX6) (T := TX6) (N := 3) hx hb hg inG6 tyX6 tyX6_ok nmX6 hown hK hP hD hS 0 rfl rfl 0 (by decide) (hg _ wd_574) (fun _ h9 => h9) rfl hin rfl (by decide +kernel) rfl rfl (Nat.le_of_ble_eq_true rfl) dX6_init_6 (fun H_1 locs hP hD hS => ?_)
  have hP : va_P D vwCl ([(oa, .inr (6, [.int k1, .int 0, .null]))] ++ va_pl L M) H_1 := hP
  have hD : va_D A ([(oa, .inr (6, [.int k1, .int 0, .null]))] ++ va_pl L M) := hD
  refine lv_aload_n hx hb dX6_init_9 rfl (lv_at hl 0 rfl) ?_
  refine lv_bipush (v := 24) hx hb dX6_init_10 (by decide) ?_
  refine va_newa (atype := .int) (ty := .int) (a0 := (24, .inl (fun _ => 0))) hx hb (hg _ wd_531) rfl hK hP hD hS hA (fun cA => rfl) (by decide) (by decide) (Nat.le_of_ble_eq_true rfl) (Nat.le_trans (Nat.le_of_ble_eq_true rfl) hRc) (Nat.le_trans (Nat.le_of_ble_eq_true rfl) hRs) dX6_init_12 (fun q_2 cA_4 H_3 hK2 hP hD hS => ?_)
  obtain rfl : cA_4 = cy 14 := cls_eq hK2 10 0 rfl rfl
  have hP : va_P D vwCl ([(oa, .inr (6, [.int k1, .int 0, .null])), (q_2, .inl ((cy 14), 24, .inl (fun _ => 0)))] ++ va_pl L M) H_3 := hP.swap
  have hD : va_D A ([(oa, .inr (6, [.int k1, .int 0, .null])), (q_2, .inl ((cy 14), 24, .inl (fun _ => 0)))] ++ va_pl L M) := hD.swap
  refine W.widen (k := 1) (n := 24) (Nat.le_of_ble_eq_true rfl) (Nat.le_of_ble_eq_true rfl) ?_
  refine va_putF (D := D) (ci := 6) (v := .ref q_2) (ty := .array .int) (C := RX6) (T := TX6) (N := 3) hx hb hg inG6 tyX6 tyX6_ok nmX6 hown hK hP hD hS 0 rfl rfl 2 (by decide) (hg _ wd_93) (fun _ h9 => h9) rfl hin rfl (by decide +kernel) rfl rfl (Nat.le_of_ble_eq_true rfl) dX6_init_14 (fun H_5 locs hP hD hS => ?_)
  have hP : va_P D vwCl ([(oa, .inr (6, [.int k1, .int 0, .ref q_2])), (q_2, .inl ((cy 14), 24, .inl (fun _ => 0)))] ++ va_pl L M) H_5 := hP
  have hD : va_D A ([(oa, .inr (6, [.int k1, .int 0, .ref q_2])), (q_2, .inl ((cy 14), 24, .inl (fun _ => 0)))] ++ va_pl L M) := hD
  refine lv_aload_n hx hb dX6_init_17 rfl (lv_at hl 2 rfl) ?_
  refine lv_ifnull hx hb dX6_init_18 ?_
  refine lv_aload_n hx hb dX6_init_21 rfl (lv_at hl 0 rfl) ?_
  refine lv_aload_n hx hb dX6_init_22 rfl (lv_at hl 2 rfl) ?_
  obtain ⟨v6_0, v6_1, v6_2, hM6, h6_2⟩ := hW.open_6 ik2
  refine pg_get (D := D) (ci := 6) (v := .int v6_1) (C := RX6) (T := TX6) (N := 3) hx hb hg inG6 hown hK hP ik2.1 hM6 rfl 1 (by decide) (hg _ wd_92) (fun _ h9 => h9) rfl dX6_init_23 ?_
  refine va_put (D := D) (ci := 6) (v := .int v6_1) (ty := .int) (C := RX6) (T := TX6) (N := 3) hx hb hg inG6 tyX6 tyX6_ok nmX6 hown hK hP hD hS 0 rfl rfl 1 (by decide) (hg _ wd_92) (fun _ h9 => h9) rfl (by decide +kernel) rfl rfl (Nat.le_of_ble_eq_true rfl) dX6_init_26 (fun H_7 locs hP hD hS => ?_)
  have hP : va_P D vwCl ([(oa, .inr (6, [.int k1, .int v6_1, .ref q_2])), (q_2, .inl ((cy 14), 24, .inl (fun _ => 0)))] ++ va_pl L M) H_7 := hP
  have hD : va_D A ([(oa, .inr (6, [.int k1, .int v6_1, .ref q_2])), (q_2, .inl ((cy 14), 24, .inl (fun _ => 0)))] ++ va_pl L M) := hD
  refine lv_aload_n hx hb dX6_init_29 rfl (lv_at hl 2 rfl) ?_
  refine pg_get (D := D) (ci := 6) (v := .ref v6_2) (C := RX6) (T := TX6) (N := 3) hx hb hg inG6 hown hK hP ik2.1 hM6 rfl 2 (by decide) (hg _ wd_93) (fun _ h9 => h9) rfl dX6_init_30 ?_
  refine lv_iconst (v := 0) hx hb dX6_init_33 (by decide) ?_
  refine lv_aload_n hx hb dX6_init_34 rfl (lv_at hl 0 rfl) ?_
  refine va_get (D := D) (ci := 6) (v := .ref q_2) (C := RX6) (T := TX6) (N := 3) hx hb hg inG6 hown hK hP 0 rfl rfl 2 (by decide) (hg _ wd_93) (fun _ h9 => h9) rfl dX6_init_35 ?_
  refine lv_iconst (v := 0) hx hb dX6_init_38 (by decide) ?_
  refine lv_aload_n hx hb dX6_init_39 rfl (lv_at hl 0 rfl) ?_
  refine va_get (D := D) (ci := 6) (v := .ref q_2) (C := RX6) (T := TX6) (N := 3) hx hb hg inG6 hown hK hP 0 rfl rfl 2 (by decide) (hg _ wd_93) (fun _ h9 => h9) rfl dX6_init_40 ?_
  refine va_alen (v := 24) hx hb hK hP 1 0 rfl rfl (by rfl) dX6_init_43 ?_
  obtain ⟨f8, hM8⟩ := hW.open_54 h6_2
  refine pg_copyi hx hb (by rw [hml]; exact hl.1.symm) hown (hg _ wd_575) (hg _ wd_576) (hg _ wd_577) (hg _ wd_578) hK hP hD hS h6_2.1 1 0 hM8 rfl rfl (by decide) (by decide) (by decide) (by decide) (by decide) (Nat.le_trans (Nat.le_of_ble_eq_true rfl) hRf) (Nat.le_trans (Nat.le_of_ble_eq_true rfl) hRl) dX6_init_44 (fun H_9 locs hP hD hS => ?_)
  obtain ⟨f_10, ef_10⟩ : ∃ f : Nat → Int32, f = va_cpy f8 (fun _ => 0) (0 : Int32).toNatClampNeg (0 : Int32).toNatClampNeg (24 : Int32).toNatClampNeg := ⟨_, rfl⟩
  have hP : va_P D vwCl ([(oa, .inr (6, [.int k1, .int v6_1, .ref q_2])), (q_2, .inl ((cy 14), 24, .inl (f_10)))] ++ va_pl L M) H_9 := by rw [ef_10]; exact hP
  have hD : va_D A ([(oa, .inr (6, [.int k1, .int v6_1, .ref q_2])), (q_2, .inl ((cy 14), 24, .inl (f_10)))] ++ va_pl L M) := by rw [ef_10]; exact hD
  rw [hQ]
  exact W.vret hx hb hr (fun t ht hW9 => ⟨⟨(), rfl, trivial, ⟨v6_1, q_2, f_10, by rw [ht]; exact hP, hD⟩⟩, hS.F ht⟩) hS.2.2 dX6_init_47
set_option maxHeartbeats 4000000 in
set_option maxRecDepth 100000 in
theorem s_X11_rule (l : Launch) (D : va_G) (cy : Nat → ClassId) (K0 : Kp) (L0 : List Nat) (M0 : Hp) (sz : Nat) (xa : Nat) (x0 : Nat) (x1 : Nat) (x2 : Nat) (x3 : Nat) (x4 : Nat) (x5 : Nat) (x6 : Nat) (x7 : Int32) (x8 : Nat) (x9 : Int32) (x10 : Int32) (k1 : Int32) (k2 : Int32) (hW : WOK cy K0 L0 M0) (i0 : isk K0 L0 x0 17 8) (b1 : x1 ≤ 8) (i2 : isk K0 L0 x2 19 40) (b3 : x3 ≤ 40) (i4 : isk K0 L0 x4 7 0) (i5 : isk K0 L0 x5 5 0) (i6 : isk K0 L0 x6 60 24) (i8 : isk K0 L0 x8 73 25) : Met l yX11_rule (wsM yX11_rule cX11_rule 6 (some .int)) ({ frames := 2, cells := 2, slots := 27, locals := 62 }) (va_Pc [.ref xa, .int k1, .int k2] (PG D cy [(xa, .inr (11, [.ref x0, .int (nI x1), .ref x2, .int (nI x3), .ref x4, .ref x5, .ref x6, .int x7, .ref x8, .int x9, .int x10]))] L0 M0 sz)) (va_Qi (fun (r : Int32) (u : Kp × List Nat × Hp) => ext K0 L0 u.1 u.2.1 ∧ WOK cy u.1 u.2.1 u.2.2 ∧ fr K0 L0 [2, 20] M0 u.2.2 ∧ fT 2 K0 L0 [11] M0 u.2.2 ∧ (True)) (fun u t => ∃ (w9 : Int32) (w10 : Int32), PQ D [(xa, .inr (11, [.ref x0, .int (nI x1), .ref x2, .int (nI x3), .ref x4, .ref x5, .ref x6, .int x7, .ref x8, .int w9, .int w10]))] u.2.1 u.2.2 (va_A ([(xa, .inr (11, [.ref x0, .int (nI x1), .ref x2, .int (nI x3), .ref x4, .ref x5, .ref x6, .int x7, .ref x8, .int x9, .int x10]))] ++ va_pl L0 M0) sz) t) (va_A ([(xa, .inr (11, [.ref x0, .int (nI x1), .ref x2, .int (nI x3), .ref x4, .ref x5, .ref x6, .int x7, .ref x8, .int x9, .int x10]))] ++ va_pl L0 M0) sz)) 2 27 (va_A ([(xa, .inr (11, [.ref x0, .int (nI x1), .ref x2, .int (nI x3), .ref x4, .ref x5, .ref x6, .int x7, .ref x8, .int x9, .int x10]))] ++ va_pl L0 M0) sz) := by
  refine Met.ofW (cc := cX11_rule) (maxL := 6) (ret := (some .int)) (by decide) rfl ?_
  intro p e s m args below meth c s₁ B hml hv
  obtain ⟨rfl, hsz, hP, hK, hD0, hN⟩ := hv
  have hx := B.exec
  have hb := B.bytes
  have hr := B.returns
  have hts := atoms_spec (ws := (wsM yX11_rule cX11_rule 6 (some .int))) B.pre
  have hg : ∀ w ∈ lw_good, w.before _ s = true := fun w h => hts w (List.mem_cons_of_mem _ h)
  have hown : s.vm.findClass RX11 = some m.cls := findClass_of_methodNamed B.named
  have hlocks := B.notSynchronized
  subst hsz
  have hD := hD0.self (sz := s.heap.size)
  generalize hAe : va_A ([(xa, .inr (11, [.ref x0, .int (nI x1), .ref x2, .int (nI x3), .ref x4, .ref x5, .ref x6, .int x7, .ref x8, .int x9, .int x10]))] ++ va_pl L0 M0) s.heap.size = A at hD ⊢
  have hA : ∀ q : Nat, s.heap.size ≤ q → A q := fun q h => by rw [← hAe]; exact Or.inr h
  have hS : va_S A s.heap s.heap [] := va_S.rf
  have hl := lv_entry ([.ref xa, .int k1, .int k2]) (n := 6) (Nat.le_of_ble_eq_true rfl)
  rw [lg_entry_eq]
  generalize (lg_sl ([.ref xa, .int k1, .int k2]) ++ List.replicate (6 - (lg_sl ([.ref xa, .int k1, .int k2])).length) Slot.unset).toArray = ls at hl ⊢
  refine W.nameQ (fun Q hQ => ?_)
  refine W.nameR (fun R hR => ?_)
  have hRf : 2 ≤ R.frames := by rw [hR]; exact Nat.le_of_ble_eq_true rfl
  have hRl : 62 ≤ R.locals := by rw [hR]; exact Nat.le_of_ble_eq_true rfl
  have hRc : 2 ≤ R.cells := by rw [hR]; exact Nat.le_of_ble_eq_true rfl
  have hRs : 27 ≤ R.slots := by rw [hR]; exact Nat.le_of_ble_eq_true rfl
  obtain ⟨K, L, M, hX0, hF, hT2, hW, hP, hD, i0, i2, i4, i5, i6, i8⟩ : ∃ (K : Kp) (L : List Nat) (M : Hp), ext K0 L0 K L ∧ fr K0 L0 [2, 20] M0 M ∧ fT 2 K0 L0 [11] M0 M ∧ WOK cy K L M ∧ va_P D vwCl ([(xa, .inr (11, [.ref x0, .int (nI x1), .ref x2, .int (nI x3), .ref x4, .ref x5, .ref x6, .int x7, .ref x8, .int x9, .int x10]))] ++ va_pl L M) s.heap ∧ va_D A ([(xa, .inr (11, [.ref x0, .int (nI x1), .ref x2, .int (nI x3), .ref x4, .ref x5, .ref x6, .int x7, .ref x8, .int x9, .int x10]))] ++ va_pl L M) ∧ isk K L x0 17 8 ∧ isk K L x2 19 40 ∧ isk K L x4 7 0 ∧ isk K L x5 5 0 ∧ isk K L x6 60 24 ∧ isk K L x8 73 25 := ⟨K0, L0, M0, ext.rf, fr.rf, fT.rf, hW, hP, hD, i0, i2, i4, i5, i6, i8⟩
  have hl : lv_has ls 6 [(0, .ref xa), (1, .int k1), (2, .int k2)] := hl
  refine lv_aload_n hx hb dX11_rule_0 rfl (lv_at hl 0 rfl) ?_
  refine lv_iload_n hx hb dX11_rule_1 rfl (lv_at hl 1 rfl) ?_
  have hPc : va_P D vwCl ([(xa, .inr (11, [.ref x0, .int (nI x1), .ref x2, .int (nI x3), .ref x4, .ref x5, .ref x6, .int x7, .ref x8, .int x9, .int x10]))] ++ va_pl L M) s.heap := hP
  have hDc : va_D A ([(xa, .inr (11, [.ref x0, .int (nI x1), .ref x2, .int (nI x3), .ref x4, .ref x5, .ref x6, .int x7, .ref x8, .int x9, .int x10]))] ++ va_pl L M) := hD
  have hFc : ∀ q, va_A ([(xa, .inr (11, [.ref x0, .int (nI x1), .ref x2, .int (nI x3), .ref x4, .ref x5, .ref x6, .int x7, .ref x8, .int x9, .int x10]))] ++ va_pl L M) s.heap.size q → A q := pg_free hDc hS hA
  refine va_callq (va_runV (As := [.int k1]) (rest := []) ⟨hx, hb, hml, hown, hg⟩ (s_X11_houseAt l D cy K L M s.heap.size xa x0 x1 x2 x3 x4 x5 x6 x7 x8 x9 x10 k1  hW i0 b1 i2 b3 i4 i5 i6 i8) (cwV 1 hg (gV wd_340 wd_341 wd_342 wd_3 wd_343) rfl rfl rfl (by decide +kernel) ⟨(Nat.le_trans (Nat.le_of_ble_eq_true rfl) hRf), (Nat.le_trans (Nat.le_of_ble_eq_true rfl) hRl)⟩) ⟨PG.blind, va_recv hK hP (ci := 11) (q0 := 0) rfl rfl, fun U hU hW => ⟨rfl, PG.at hPc hK hDc hN hU hW⟩⟩ rfl rfl hl.1 rfl (lv_room (Nat.le_of_ble_eq_true rfl)) dX11_rule_2 ⟨(Nat.le_trans (Nat.le_of_ble_eq_true rfl) hRc), (Nat.le_trans (Nat.le_of_ble_eq_true rfl) hRs)⟩) hS (fun q _ h => hFc q h) hFc (fun r_2 M_3 t H_1 locs ht hvm hw hB hz1 hk1 hS => ?_)
  have hp_4 := hw
  obtain ⟨hP1, hD1⟩ := hB
  rw [ht] at hP1
  have hP : va_P D vwCl ([(xa, .inr (11, [.ref x0, .int (nI x1), .ref x2, .int (nI x3), .ref x4, .ref x5, .ref x6, .int x7, .ref x8, .int x9, .int x10]))] ++ va_pl L M) H_1 := hP1
  have hD : va_D A ([(xa, .inr (11, [.ref x0, .int (nI x1), .ref x2, .int (nI x3), .ref x4, .ref x5, .ref x6, .int x7, .ref x8, .int x9, .int x10]))] ++ va_pl L M) := hD1.mono hFc
  rcases r_2 with _ | b_5
  · have hz := rfl (a := 0)
    refine lv_astore_nN (lv' := [(3, .null), (0, .ref xa), (1, .int k1), (2, .int k2)]) hx hb dX11_rule_5 rfl hl (by decide) rfl (fun ls hl => ?_)
    refine lv_aload_nN hx hb dX11_rule_6 rfl (lv_at hl 0 rfl) ?_
    refine lv_ifnonnullN hx hb dX11_rule_7 ?_
    refine lv_aload_n hx hb dX11_rule_10 rfl (lv_at hl 1 rfl) ?_
    refine lv_iconst (v := 1) hx hb dX11_rule_11 (by decide) ?_
    have hPc := hP.sub (ws' := [(xa, .inr (11, [.ref x0, .int (nI x1), .ref x2, .int (nI x3), .ref x4, .ref x5, .ref x6, .int x7, .ref x8, .int x9, .int x10]))]) [0] rfl
    have hDc := hD.sub (ws' := [(xa, .inr (11, [.ref x0, .int (nI x1), .ref x2, .int (nI x3), .ref x4, .ref x5, .ref x6, .int x7, .ref x8, .int x9, .int x10]))]) [0] (by decide) rfl
    have hKc := hK.sub (tys' := []) [] rfl
    have hFc := va_free (wc := [(xa, .inr (11, [.ref x0, .int (nI x1), .ref x2, .int (nI x3), .ref x4, .ref x5, .ref x6, .int x7, .ref x8, .int x9, .int x10]))]) hD hS hA [0] rfl
    refine va_calli (va_runV (As := [.int 1]) (rest := []) ⟨hx, hb, hml, hown, hg⟩ (k_refuse l D H_1.size xa x0 (nI x1) x2 (nI x3) x4 x5 x6 x7 x8 x9 x10 1) (cwV 1 hg (gV wd_344 wd_345 wd_346 wd_3 wd_347) rfl rfl rfl (by decide +kernel) ⟨(Nat.le_trans (Nat.le_of_ble_eq_true rfl) hRf), (Nat.le_trans (Nat.le_of_ble_eq_true rfl) hRl)⟩) ⟨Pr.blind, va_recv hK hP (ci := 11) (q0 := 0) rfl rfl, fun U hU hW => ⟨rfl, Pr.at hPc hKc hDc hN hU hW⟩⟩ rfl rfl hl.1 rfl (lv_room (Nat.le_of_ble_eq_true rfl)) dX11_rule_12 ⟨(Nat.le_trans (Nat.le_of_ble_eq_true rfl) hRc), (Nat.le_trans (Nat.le_of_ble_eq_true rfl) hRs)⟩) hS (fun q _ h => hFc q h) hFc (fun r_7 M_8 t H_6 locs ht hvm hw hB hz1 hk1 hS => ?_)
    have hp_9 := hw
    obtain ⟨hP1, hK1, hD1⟩ := hB
    rw [ht] at hP1
    obtain ⟨hP, hD⟩ := va_joinQ (X := [(xa, .inr (11, [.ref x0, .int (nI x1), .ref x2, .int (nI x3), .ref x4, .ref x5, .ref x6, .int x7, .ref x8, .int x9, .int x10]))]) (cx := [(xa, .inr (11, [.ref x0, .int (nI x1), .ref x2, .int (nI x3), .ref x4, .ref x5, .ref x6, .int x7, .ref x8, .int x9, .int x10]))]) (wr := []) (w1 := [(xa, .inr (11, [.ref x0, .int (nI x1), .ref x2, .int (nI x3), .ref x4, .ref x5, .ref x6, .int x7, .ref x8, .int 1, .int (-1)]))]) (pl := va_pl L M) hP hD [0] [] rfl rfl (by decide) (by decide) hk1 hFc hP1 hD1
    have hP : va_P D vwCl ([(xa, .inr (11, [.ref x0, .int (nI x1), .ref x2, .int (nI x3), .ref x4, .ref x5, .ref x6, .int x7, .ref x8, .int 1, .int (-1)]))] ++ va_pl L M) H_6 := hP
    have hD : va_D A ([(xa, .inr (11, [.ref x0, .int (nI x1), .ref x2, .int (nI x3), .ref x4, .ref x5, .ref x6, .int x7, .ref x8, .int 1, .int (-1)]))] ++ va_pl L M) := hD
    have hq := Eq.symm hp_9
    subst hq
    refine W.widen (k := 2) (n := 27) (Nat.le_of_ble_eq_true rfl) (Nat.le_of_ble_eq_true rfl) ?_
    rw [hQ]
    exact W.iret (v := (-1)) hx hb hr (fun t ht hW9 => ⟨⟨(-1), (K, L, M), rfl, ⟨hX0, hW, hF, hT2, trivial⟩, ⟨1, (-1), by rw [ht]; exact hP, hD⟩⟩, hS.F ht⟩) hS.2.2 dX11_rule_15
  · have hb_10 := hp_4 b_5 rfl
    refine lv_astore_n (lv' := [(3, .ref b_5), (0, .ref xa), (1, .int k1), (2, .int k2)]) hx hb dX11_rule_5 rfl hl (by decide) rfl (fun ls hl => ?_)
    refine lv_aload_n hx hb dX11_rule_6 rfl (lv_at hl 0 rfl) ?_
    refine lv_ifnonnull (tgt := 16) hx hb dX11_rule_7 (by decide) ?_
    refine lv_aload_n hx hb dX11_rule_16 rfl (lv_at hl 0 rfl) ?_
    obtain ⟨v11_0, v11_1, v11_2, v11_3, v11_4, v11_5, v11_6, v11_7, v11_8, v11_9, v11_10, v11_11, v11_12, v11_13, v11_14, v11_15, v11_16, v11_17, v11_18, v11_19, hM11, h11_3, h11_4, h11_5, h11_6, h11_7, h11_8, h11_9, h11_10, h11_11, h11_12, h11_13, h11_16, h11_17, h11_18, h11_19⟩ := hW.open_2 hb_10
    have hPc : va_P D vwCl ([] ++ va_pl L M) H_1 := hP.part (cx := []) [] rfl
    have hDc : va_D A ([] ++ va_pl L M) := hD.part (cx := []) [] (by decide) rfl
    have hFc : ∀ q, va_A ([] ++ va_pl L M) H_1.size q → A q := pg_free hDc hS hA
    refine va_callq (va_runV (As := []) (rest := []) ⟨hx, hb, hml, hown, hg⟩ (s_X2_latestRule l D cy K L M H_1.size b_5  hW hb_10) (cwV 0 hg (gV wd_461 wd_462 wd_463 wd_57 wd_464) rfl rfl rfl (by decide +kernel) ⟨(Nat.le_trans (Nat.le_of_ble_eq_true rfl) hRf), (Nat.le_trans (Nat.le_of_ble_eq_true rfl) hRl)⟩) ⟨PG.blind, pg_recv hK hP hb_10.1 hM11 rfl, fun U hU hW => ⟨rfl, PG.at hPc hK hDc hN hU hW⟩⟩ rfl rfl hl.1 rfl (lv_room (Nat.le_of_ble_eq_true rfl)) dX11_rule_17 ⟨(Nat.le_trans (Nat.le_of_ble_eq_true rfl) hRc), (Nat.le_trans (Nat.le_of_ble_eq_true rfl) hRs)⟩) hS (fun q _ h => hFc q h) hFc (fun r_13 M_14 t H_12 locs ht hvm hw hB hz1 hk1 hS => ?_)
    have hp_15 := hw
    obtain ⟨hP1, hD1⟩ := hB
    rw [ht] at hP1
    obtain ⟨hP, hD⟩ := va_joinP (X := [(xa, .inr (11, [.ref x0, .int (nI x1), .ref x2, .int (nI x3), .ref x4, .ref x5, .ref x6, .int x7, .ref x8, .int x9, .int x10]))]) (cx := []) (wr := [(xa, .inr (11, [.ref x0, .int (nI x1), .ref x2, .int (nI x3), .ref x4, .ref x5, .ref x6, .int x7, .ref x8, .int x9, .int x10]))]) (rx := []) (pl := va_pl L M) (pl1 := va_pl L M) hP hD [] [0] rfl rfl (by decide) (by decide) hk1 hFc hP1 hD1
    have hP : va_P D vwCl ([(xa, .inr (11, [.ref x0, .int (nI x1), .ref x2, .int (nI x3), .ref x4, .ref x5, .ref x6, .int x7, .ref x8, .int x9, .int x10]))] ++ va_pl L M) H_12 := hP
    have hD : va_D A ([(xa, .inr (11, [.ref x0, .int (nI x1), .ref x2, .int (nI x3), .ref x4, .ref x5, .ref x6, .int x7, .ref x8, .int x9, .int x10]))] ++ va_pl L M) := hD
    rcases r_13 with _ | b_16
    · have hz := rfl (a := 0)
      refine lv_astoreN (lv' := [(4, .null), (3, .ref b_5), (0, .ref xa), (1, .int k1), (2, .int k2)]) hx hb dX11_rule_20 hl (by decide) rfl (fun ls hl => ?_)
      refine lv_aloadN hx hb dX11_rule_22 (lv_at hl 0 rfl) ?_
      refine lv_ifnonnullN hx hb dX11_rule_24 ?_
      refine lv_iload_n hx hb dX11_rule_27 rfl (lv_at hl 4 rfl) ?_
      refine lv_aload_n hx hb dX11_rule_28 rfl (lv_at hl 1 rfl) ?_
      refine pg_get (D := D) (ci := 2) (v := .int v11_1) (C := RX2) (T := TX2) (N := 20) hx hb hg inG2 hown hK hP hb_10.1 hM11 rfl 1 (by decide) (hg _ wd_439) (fun _ h9 => h9) rfl dX11_rule_29 ?_
      refine lv_icmp_ne (tgt := 39) hx hb dX11_rule_32 (by decide) (fun c_17 => ?_) (fun c_17 => ?_)
      · have hz := rfl (a := 0)
        refine lv_iconst (v := 0) hx hb dX11_rule_39 (by decide) ?_
        refine lv_goto (tgt := 57) hx hb dX11_rule_40 (by decide) ?_
        refine lv_istore (lv' := [(5, .int 0), (4, .null), (3, .ref b_5), (0, .ref xa), (1, .int k1), (2, .int k2)]) hx hb dX11_rule_57 hl (by decide) rfl (fun ls hl => ?_)
        refine lv_aload_n hx hb dX11_rule_59 rfl (lv_at hl 2 rfl) ?_
        refine lv_iload_n hx hb dX11_rule_60 rfl (lv_at hl 5 rfl) ?_
        have hPc : va_P D vwCl ([] ++ va_pl L M) H_12 := hP.part (cx := []) [] rfl
        have hDc : va_D A ([] ++ va_pl L M) := hD.part (cx := []) [] (by decide) rfl
        have hFc : ∀ q, va_A ([] ++ va_pl L M) H_12.size q → A q := pg_free hDc hS hA
        refine va_calli (va_runV (As := [.int k2]) (rest := []) ⟨hx, hb, hml, hown, hg⟩ (s_X2_isFree l D cy K L M H_12.size b_5 k2  hW hb_10) (cwV 1 hg (gV wd_361 wd_362 wd_363 wd_57 wd_364) rfl rfl rfl (by decide +kernel) ⟨(Nat.le_trans (Nat.le_of_ble_eq_true rfl) hRf), (Nat.le_trans (Nat.le_of_ble_eq_true rfl) hRl)⟩) ⟨PG.blind, pg_recv hK hP hb_10.1 hM11 rfl, fun U hU hW => ⟨rfl, PG.at hPc hK hDc hN hU hW⟩⟩ rfl rfl hl.1 rfl (lv_room (Nat.le_of_ble_eq_true rfl)) dX11_rule_61 ⟨(Nat.le_trans (Nat.le_of_ble_eq_true rfl) hRc), (Nat.le_trans (Nat.le_of_ble_eq_true rfl) hRs)⟩) hS (fun q _ h => hFc q h) hFc (fun r_19 M_20 t H_18 locs ht hvm hw hB hz1 hk1 hS => ?_)
        have hp_21 := hw
        obtain ⟨hP1, hD1⟩ := hB
        rw [ht] at hP1
        obtain ⟨hP, hD⟩ := va_joinP (X := [(xa, .inr (11, [.ref x0, .int (nI x1), .ref x2, .int (nI x3), .ref x4, .ref x5, .ref x6, .int x7, .ref x8, .int x9, .int x10]))]) (cx := []) (wr := [(xa, .inr (11, [.ref x0, .int (nI x1), .ref x2, .int (nI x3), .ref x4, .ref x5, .ref x6, .int x7, .ref x8, .int x9, .int x10]))]) (rx := []) (pl := va_pl L M) (pl1 := va_pl L M) hP hD [] [0] rfl rfl (by decide) (by decide) hk1 hFc hP1 hD1
        have hP : va_P D vwCl ([(xa, .inr (11, [.ref x0, .int (nI x1), .ref x2, .int (nI x3), .ref x4, .ref x5, .ref x6, .int x7, .ref x8, .int x9, .int x10]))] ++ va_pl L M) H_18 := hP
        have hD : va_D A ([(xa, .inr (11, [.ref x0, .int (nI x1), .ref x2, .int (nI x3), .ref x4, .ref x5, .ref x6, .int x7, .ref x8, .int x9, .int x10]))] ++ va_pl L M) := hD
        rcases hp_21 with ⟨rfl, c_22, c_23⟩ | rfl
        · have hz := rfl (a := 0)
          refine lv_if_eq (tgt := 72) hx hb dX11_rule_64 (by decide) (fun c_24 => absurd c_24 (by decide)) (fun _ => ?_)
          refine lv_iload hx hb dX11_rule_67 (lv_at hl 0 rfl) ?_
          refine lv_if_ne (tgt := 78) hx hb dX11_rule_69 (by decide) (fun c_25 => absurd c_25 (by decide)) (fun _ => ?_)
          refine lv_aload_n hx hb dX11_rule_72 rfl (lv_at hl 3 rfl) ?_
          refine lv_iconst (v := 3) hx hb dX11_rule_73 (by decide) ?_
          have hPc := hP.sub (ws' := [(xa, .inr (11, [.ref x0, .int (nI x1), .ref x2, .int (nI x3), .ref x4, .ref x5, .ref x6, .int x7, .ref x8, .int x9, .int x10]))]) [0] rfl
          have hDc := hD.sub (ws' := [(xa, .inr (11, [.ref x0, .int (nI x1), .ref x2, .int (nI x3), .ref x4, .ref x5, .ref x6, .int x7, .ref x8, .int x9, .int x10]))]) [0] (by decide) rfl
          have hKc := hK.sub (tys' := []) [] rfl
          have hFc := va_free (wc := [(xa, .inr (11, [.ref x0, .int (nI x1), .ref x2, .int (nI x3), .ref x4, .ref x5, .ref x6, .int x7, .ref x8, .int x9, .int x10]))]) hD hS hA [0] rfl
          refine va_calli (va_runV (As := [.int 3]) (rest := []) ⟨hx, hb, hml, hown, hg⟩ (k_refuse l D H_18.size xa x0 (nI x1) x2 (nI x3) x4 x5 x6 x7 x8 x9 x10 3) (cwV 1 hg (gV wd_344 wd_345 wd_346 wd_3 wd_347) rfl rfl rfl (by decide +kernel) ⟨(Nat.le_trans (Nat.le_of_ble_eq_true rfl) hRf), (Nat.le_trans (Nat.le_of_ble_eq_true rfl) hRl)⟩) ⟨Pr.blind, va_recv hK hP (ci := 11) (q0 := 0) rfl rfl, fun U hU hW => ⟨rfl, Pr.at hPc hKc hDc hN hU hW⟩⟩ rfl rfl hl.1 rfl (lv_room (Nat.le_of_ble_eq_true rfl)) dX11_rule_74 ⟨(Nat.le_trans (Nat.le_of_ble_eq_true rfl) hRc), (Nat.le_trans (Nat.le_of_ble_eq_true rfl) hRs)⟩) hS (fun q _ h => hFc q h) hFc (fun r_27 M_28 t H_26 locs ht hvm hw hB hz1 hk1 hS => ?_)
          have hp_29 := hw
          obtain ⟨hP1, hK1, hD1⟩ := hB
          rw [ht] at hP1
          obtain ⟨hP, hD⟩ := va_joinQ (X := [(xa, .inr (11, [.ref x0, .int (nI x1), .ref x2, .int (nI x3), .ref x4, .ref x5, .ref x6, .int x7, .ref x8, .int x9, .int x10]))]) (cx := [(xa, .inr (11, [.ref x0, .int (nI x1), .ref x2, .int (nI x3), .ref x4, .ref x5, .ref x6, .int x7, .ref x8, .int x9, .int x10]))]) (wr := []) (w1 := [(xa, .inr (11, [.ref x0, .int (nI x1), .ref x2, .int (nI x3), .ref x4, .ref x5, .ref x6, .int x7, .ref x8, .int 3, .int (-1)]))]) (pl := va_pl L M) hP hD [0] [] rfl rfl (by decide) (by decide) hk1 hFc hP1 hD1
          have hP : va_P D vwCl ([(xa, .inr (11, [.ref x0, .int (nI x1), .ref x2, .int (nI x3), .ref x4, .ref x5, .ref x6, .int x7, .ref x8, .int 3, .int (-1)]))] ++ va_pl L M) H_26 := hP
          have hD : va_D A ([(xa, .inr (11, [.ref x0, .int (nI x1), .ref x2, .int (nI x3), .ref x4, .ref x5, .ref x6, .int x7, .ref x8, .int 3, .int (-1)]))] ++ va_pl L M) := hD
          have hq := Eq.symm hp_29
          subst hq
          refine W.widen (k := 2) (n := 27) (Nat.le_of_ble_eq_true rfl) (Nat.le_of_ble_eq_true rfl) ?_
          rw [hQ]
          exact W.iret (v := (-1)) hx hb hr (fun t ht hW9 => ⟨⟨(-1), (K, L, M), rfl, ⟨hX0, hW, hF, hT2, trivial⟩, ⟨3, (-1), by rw [ht]; exact hP, hD⟩⟩, hS.F ht⟩) hS.2.2 dX11_rule_77
        · have hz := rfl (a := 0)
          refine lv_if_eq (tgt := 72) hx hb dX11_rule_64 (by decide) (fun _ => ?_) (fun c_30 => absurd c_30 (by decide))
          refine lv_aload_n hx hb dX11_rule_72 rfl (lv_at hl 3 rfl) ?_
          refine lv_iconst (v := 3) hx hb dX11_rule_73 (by decide) ?_
          have hPc := hP.sub (ws' := [(xa, .inr (11, [.ref x0, .int (nI x1), .ref x2, .int (nI x3), .ref x4, .ref x5, .ref x6, .int x7, .ref x8, .int x9, .int x10]))]) [0] rfl
          have hDc := hD.sub (ws' := [(xa, .inr (11, [.ref x0, .int (nI x1), .ref x2, .int (nI x3), .ref x4, .ref x5, .ref x6, .int x7, .ref x8, .int x9, .int x10]))]) [0] (by decide) rfl
          have hKc := hK.sub (tys' := []) [] rfl
          have hFc := va_free (wc := [(xa, .inr (11, [.ref x0, .int (nI x1), .ref x2, .int (nI x3), .ref x4, .ref x5, .ref x6, .int x7, .ref x8, .int x9, .int x10]))]) hD hS hA [0] rfl
          refine va_calli (va_runV (As := [.int 3]) (rest := []) ⟨hx, hb, hml, hown, hg⟩ (k_refuse l D H_18.size xa x0 (nI x1) x2 (nI x3) x4 x5 x6 x7 x8 x9 x10 3) (cwV 1 hg (gV wd_344 wd_345 wd_346 wd_3 wd_347) rfl rfl rfl (by decide +kernel) ⟨(Nat.le_trans (Nat.le_of_ble_eq_true rfl) hRf), (Nat.le_trans (Nat.le_of_ble_eq_true rfl) hRl)⟩) ⟨Pr.blind, va_recv hK hP (ci := 11) (q0 := 0) rfl rfl, fun U hU hW => ⟨rfl, Pr.at hPc hKc hDc hN hU hW⟩⟩ rfl rfl hl.1 rfl (lv_room (Nat.le_of_ble_eq_true rfl)) dX11_rule_74 ⟨(Nat.le_trans (Nat.le_of_ble_eq_true rfl) hRc), (Nat.le_trans (Nat.le_of_ble_eq_true rfl) hRs)⟩) hS (fun q _ h => hFc q h) hFc (fun r_32 M_33 t H_31 locs ht hvm hw hB hz1 hk1 hS => ?_)
          have hp_34 := hw
          obtain ⟨hP1, hK1, hD1⟩ := hB
          rw [ht] at hP1
          obtain ⟨hP, hD⟩ := va_joinQ (X := [(xa, .inr (11, [.ref x0, .int (nI x1), .ref x2, .int (nI x3), .ref x4, .ref x5, .ref x6, .int x7, .ref x8, .int x9, .int x10]))]) (cx := [(xa, .inr (11, [.ref x0, .int (nI x1), .ref x2, .int (nI x3), .ref x4, .ref x5, .ref x6, .int x7, .ref x8, .int x9, .int x10]))]) (wr := []) (w1 := [(xa, .inr (11, [.ref x0, .int (nI x1), .ref x2, .int (nI x3), .ref x4, .ref x5, .ref x6, .int x7, .ref x8, .int 3, .int (-1)]))]) (pl := va_pl L M) hP hD [0] [] rfl rfl (by decide) (by decide) hk1 hFc hP1 hD1
          have hP : va_P D vwCl ([(xa, .inr (11, [.ref x0, .int (nI x1), .ref x2, .int (nI x3), .ref x4, .ref x5, .ref x6, .int x7, .ref x8, .int 3, .int (-1)]))] ++ va_pl L M) H_31 := hP
          have hD : va_D A ([(xa, .inr (11, [.ref x0, .int (nI x1), .ref x2, .int (nI x3), .ref x4, .ref x5, .ref x6, .int x7, .ref x8, .int 3, .int (-1)]))] ++ va_pl L M) := hD
          have hq := Eq.symm hp_34
          subst hq
          refine W.widen (k := 2) (n := 27) (Nat.le_of_ble_eq_true rfl) (Nat.le_of_ble_eq_true rfl) ?_
          rw [hQ]
          exact W.iret (v := (-1)) hx hb hr (fun t ht hW9 => ⟨⟨(-1), (K, L, M), rfl, ⟨hX0, hW, hF, hT2, trivial⟩, ⟨3, (-1), by rw [ht]; exact hP, hD⟩⟩, hS.F ht⟩) hS.2.2 dX11_rule_77
      · have hz := rfl (a := 0)
        refine lv_iconst (v := 1) hx hb dX11_rule_35 (by decide) ?_
        refine lv_goto (tgt := 57) hx hb dX11_rule_36 (by decide) ?_
        refine lv_istore (lv' := [(5, .int 1), (4, .null), (3, .ref b_5), (0, .ref xa), (1, .int k1), (2, .int k2)]) hx hb dX11_rule_57 hl (by decide) rfl (fun ls hl => ?_)
        refine lv_aload_n hx hb dX11_rule_59 rfl (lv_at hl 2 rfl) ?_
        refine lv_iload_n hx hb dX11_rule_60 rfl (lv_at hl 5 rfl) ?_
        have hPc : va_P D vwCl ([] ++ va_pl L M) H_12 := hP.part (cx := []) [] rfl
        have hDc : va_D A ([] ++ va_pl L M) := hD.part (cx := []) [] (by decide) rfl
        have hFc : ∀ q, va_A ([] ++ va_pl L M) H_12.size q → A q := pg_free hDc hS hA
        refine va_calli (va_runV (As := [.int k2]) (rest := []) ⟨hx, hb, hml, hown, hg⟩ (s_X2_isFree l D cy K L M H_12.size b_5 k2  hW hb_10) (cwV 1 hg (gV wd_361 wd_362 wd_363 wd_57 wd_364) rfl rfl rfl (by decide +kernel) ⟨(Nat.le_trans (Nat.le_of_ble_eq_true rfl) hRf), (Nat.le_trans (Nat.le_of_ble_eq_true rfl) hRl)⟩) ⟨PG.blind, pg_recv hK hP hb_10.1 hM11 rfl, fun U hU hW => ⟨rfl, PG.at hPc hK hDc hN hU hW⟩⟩ rfl rfl hl.1 rfl (lv_room (Nat.le_of_ble_eq_true rfl)) dX11_rule_61 ⟨(Nat.le_trans (Nat.le_of_ble_eq_true rfl) hRc), (Nat.le_trans (Nat.le_of_ble_eq_true rfl) hRs)⟩) hS (fun q _ h => hFc q h) hFc (fun r_36 M_37 t H_35 locs ht hvm hw hB hz1 hk1 hS => ?_)
        have hp_38 := hw
        obtain ⟨hP1, hD1⟩ := hB
        rw [ht] at hP1
        obtain ⟨hP, hD⟩ := va_joinP (X := [(xa, .inr (11, [.ref x0, .int (nI x1), .ref x2, .int (nI x3), .ref x4, .ref x5, .ref x6, .int x7, .ref x8, .int x9, .int x10]))]) (cx := []) (wr := [(xa, .inr (11, [.ref x0, .int (nI x1), .ref x2, .int (nI x3), .ref x4, .ref x5, .ref x6, .int x7, .ref x8, .int x9, .int x10]))]) (rx := []) (pl := va_pl L M) (pl1 := va_pl L M) hP hD [] [0] rfl rfl (by decide) (by decide) hk1 hFc hP1 hD1
        have hP : va_P D vwCl ([(xa, .inr (11, [.ref x0, .int (nI x1), .ref x2, .int (nI x3), .ref x4, .ref x5, .ref x6, .int x7, .ref x8, .int x9, .int x10]))] ++ va_pl L M) H_35 := hP
        have hD : va_D A ([(xa, .inr (11, [.ref x0, .int (nI x1), .ref x2, .int (nI x3), .ref x4, .ref x5, .ref x6, .int x7, .ref x8, .int x9, .int x10]))] ++ va_pl L M) := hD
        rcases hp_38 with ⟨rfl, c_39, c_40⟩ | rfl
        · have hz := rfl (a := 0)
          refine lv_if_eq (tgt := 72) hx hb dX11_rule_64 (by decide) (fun c_41 => absurd c_41 (by decide)) (fun _ => ?_)
          refine lv_iload hx hb dX11_rule_67 (lv_at hl 0 rfl) ?_
          refine lv_if_ne (tgt := 78) hx hb dX11_rule_69 (by decide) (fun _ => ?_) (fun c_42 => absurd c_42 (by decide))
          refine lv_aload_n hx hb dX11_rule_78 rfl (lv_at hl 2 rfl) ?_
          refine pg_get (D := D) (ci := 2) (v := .int (nI v11_11)) (C := RX2) (T := TX2) (N := 20) hx hb hg inG2 hown hK hP hb_10.1 hM11 rfl 11 (by decide) (hg _ wd_442) (fun _ h9 => h9) rfl dX11_rule_79 ?_
          refine lv_bipush (v := 16) hx hb dX11_rule_82 (by decide) ?_
          refine lv_icmp_lt (tgt := 94) hx hb dX11_rule_84 (by decide) (fun c_43 => ?_) (fun c_43 => ?_)
          · have hz := rfl (a := 0)
            have n_44 : v11_11 < 16 := (iLT (a := v11_11) (b := 16) (by omega) (by omega)).mp c_43
            refine lv_aload_n hx hb dX11_rule_94 rfl (lv_at hl 2 rfl) ?_
            refine pg_get (D := D) (ci := 2) (v := .ref v11_10) (C := RX2) (T := TX2) (N := 20) hx hb hg inG2 hown hK hP hb_10.1 hM11 rfl 10 (by decide) (hg _ wd_579) (fun _ h9 => h9) rfl dX11_rule_95 ?_
            refine lv_aload_n hx hb dX11_rule_98 rfl (lv_at hl 2 rfl) ?_
            refine pg_get (D := D) (ci := 2) (v := .int (nI v11_11)) (C := RX2) (T := TX2) (N := 20) hx hb hg inG2 hown hK hP hb_10.1 hM11 rfl 11 (by decide) (hg _ wd_442) (fun _ h9 => h9) rfl dX11_rule_99 ?_
            refine va_new (ci := 6) (fs := [.int 0, .int 0, .null]) (C := RX6) (T := TX6) (N := 3) hx hb hg inG6 tyX6 tyX6_ok hown (hg _ wd_580) (hg _ wd_581) (hg _ wd_97) hK hP hD hS hA rfl dfX6 (Nat.le_trans (Nat.le_of_ble_eq_true rfl) hRc) (Nat.le_trans (Nat.le_of_ble_eq_true rfl) hRs) dX11_rule_102 (fun q_45 H_46 hP hD hS => ?_)
            have hP : va_P D vwCl ([(xa, .inr (11, [.ref x0, .int (nI x1), .ref x2, .int (nI x3), .ref x4, .ref x5, .ref x6, .int x7, .ref x8, .int x9, .int x10])), (q_45, .inr (6, [.int 0, .int 0, .null]))] ++ va_pl L M) H_46 := hP.swap
            have hD : va_D A ([(xa, .inr (11, [.ref x0, .int (nI x1), .ref x2, .int (nI x3), .ref x4, .ref x5, .ref x6, .int x7, .ref x8, .int x9, .int x10])), (q_45, .inr (6, [.int 0, .int 0, .null]))] ++ va_pl L M) := hD.swap
            refine W.widen (k := 1) (n := 3) (Nat.le_of_ble_eq_true rfl) (Nat.le_of_ble_eq_true rfl) ?_
            refine lv_dup hx hb dX11_rule_105 rfl ?_
            refine lv_iload_n hx hb dX11_rule_106 rfl (lv_at hl 5 rfl) ?_
            refine lv_aloadN hx hb dX11_rule_107 (lv_at hl 1 rfl) ?_
            have hPc := hP.sub (ws' := [(q_45, .inr (6, [.int 0, .int 0, .null]))]) [1] rfl
            have hDc := hD.sub (ws' := [(q_45, .inr (6, [.int 0, .int 0, .null]))]) [1] (by decide) rfl
            have hKc := hK.sub (tys' := []) [] rfl
            have hFc := va_free (wc := [(q_45, .inr (6, [.int 0, .int 0, .null]))]) hD hS hA [1] rfl
            refine va_callv (va_runI (As := [.int k2, .null]) (rest := [.ref q_45, .int (nI v11_11), .ref v11_10]) ⟨hx, hb, hml, hown, hg⟩ (k_Rule_n l D H_46.size q_45 k2) (cwI 2 hg (gB wd_582) rfl rfl rfl (hg _ wd_97) (hg _ wd_583) (hg _ wd_584) rfl (by decide +kernel) ⟨(Nat.le_trans (Nat.le_of_ble_eq_true rfl) hRf), (Nat.le_trans (Nat.le_of_ble_eq_true rfl) hRl)⟩) ⟨Pr.blind, fun U hU hW => ⟨rfl, Pr.at hPc hKc hDc hN hU hW⟩⟩ rfl rfl hl.1 rfl (lv_room (Nat.le_of_ble_eq_true rfl)) dX11_rule_109 ⟨(Nat.le_trans (Nat.le_of_ble_eq_true rfl) hRc), (Nat.le_trans (Nat.le_of_ble_eq_true rfl) hRs)⟩) hS (fun q _ h => hFc q h) hFc (fun M_49 t H_47 locs ht hvm hw hB hz1 hk1 hS => ?_)
            have hp_50 := hw
            obtain ⟨e0_51, c0_52, hP1, hK1, hD1⟩ := hB
            rw [ht] at hP1
            have hK1 := va_K.moved hvm.symm hK1
            obtain ⟨hP, hD⟩ := va_joinQ (X := [(xa, .inr (11, [.ref x0, .int (nI x1), .ref x2, .int (nI x3), .ref x4, .ref x5, .ref x6, .int x7, .ref x8, .int x9, .int x10])), (q_45, .inr (6, [.int 0, .int 0, .null]))]) (cx := [(q_45, .inr (6, [.int 0, .int 0, .null]))]) (wr := [(xa, .inr (11, [.ref x0, .int (nI x1), .ref x2, .int (nI x3), .ref x4, .ref x5, .ref x6, .int x7, .ref x8, .int x9, .int x10]))]) (w1 := [(q_45, .inr (6, [.int k2, .int 0, .ref e0_51])), (e0_51, .inl (c0_52, 24, .inl (fun _ => 0)))]) (pl := va_pl L M) hP hD [1] [0] rfl rfl (by decide) (by decide) hk1 hFc hP1 hD1
            have hP : va_P D vwCl ([(xa, .inr (11, [.ref x0, .int (nI x1), .ref x2, .int (nI x3), .ref x4, .ref x5, .ref x6, .int x7, .ref x8, .int x9, .int x10])), (q_45, .inr (6, [.int k2, .int 0, .ref e0_51])), (e0_51, .inl (c0_52, 24, .inl (fun _ => 0)))] ++ va_pl L M) H_47 := hP
            have hD : va_D A ([(xa, .inr (11, [.ref x0, .int (nI x1), .ref x2, .int (nI x3), .ref x4, .ref x5, .ref x6, .int x7, .ref x8, .int x9, .int x10])), (q_45, .inr (6, [.int k2, .int 0, .ref e0_51])), (e0_51, .inl (c0_52, 24, .inl (fun _ => 0)))] ++ va_pl L M) := hD
            have hK2 := hK.app hK1
            obtain rfl : c0_52 = cy 14 := cls_eq hK2 10 0 rfl rfl
            refine W.widen (k := 2) (n := 27) (Nat.le_of_ble_eq_true rfl) (Nat.le_of_ble_eq_true rfl) ?_
            have hP : va_P D vwCl (([(xa, .inr (11, [.ref x0, .int (nI x1), .ref x2, .int (nI x3), .ref x4, .ref x5, .ref x6, .int x7, .ref x8, .int x9, .int x10])), (q_45, .inr (6, [.int k2, .int 0, .ref e0_51]))] ++ [(e0_51, .inl ((cy 14), 24, .inl (fun _ => 0)))]) ++ va_pl L M) H_47 := hP.part (cx := [(xa, .inr (11, [.ref x0, .int (nI x1), .ref x2, .int (nI x3), .ref x4, .ref x5, .ref x6, .int x7, .ref x8, .int x9, .int x10])), (q_45, .inr (6, [.int k2, .int 0, .ref e0_51]))] ++ [(e0_51, .inl ((cy 14), 24, .inl (fun _ => 0)))]) [0, 1, 2] rfl
            have hD : va_D A (([(xa, .inr (11, [.ref x0, .int (nI x1), .ref x2, .int (nI x3), .ref x4, .ref x5, .ref x6, .int x7, .ref x8, .int x9, .int x10])), (q_45, .inr (6, [.int k2, .int 0, .ref e0_51]))] ++ [(e0_51, .inl ((cy 14), 24, .inl (fun _ => 0)))]) ++ va_pl L M) := hD.part (cx := [(xa, .inr (11, [.ref x0, .int (nI x1), .ref x2, .int (nI x3), .ref x4, .ref x5, .ref x6, .int x7, .ref x8, .int x9, .int x10])), (q_45, .inr (6, [.int k2, .int 0, .ref e0_51]))] ++ [(e0_51, .inl ((cy 14), 24, .inl (fun _ => 0)))]) [0, 1, 2] (by decide) rfl
            obtain ⟨K9, L9, M_53, hx9, i_54, hW, hP, hD, hM_55, hfr9, hq9⟩ := adoptE 54 24 hP hD hW (fun K' L' x i => (⟨_, rfl⟩ : gd_54 cy K' L' 24 _))
            have hM_57 : M_53 b_5 = .inr (2, [.int v11_0, .int v11_1, .int v11_2, .ref v11_3, .int (nI v11_4), .int (nI v11_5), .ref v11_6, .ref v11_7, .ref v11_8, .int (nI v11_9), .ref v11_10, .int (nI v11_11), .ref v11_12, .ref v11_13, .long v11_14, .int v11_15, .ref v11_16, .ref v11_17, .ref v11_18, .ref v11_19]) := (hfr9 _ hb_10.1).trans hM11
            have hF : fr K0 L0 [2, 20] M0 M_53 := hF.adX hX0 hfr9
            have hT2 : fT 2 K0 L0 [11] M0 M_53 := hT2.adX hX0 hfr9
            have hX0 := hX0.tr hx9
            have i_58 := i0.ext hx9
            have i_59 := i2.ext hx9
            have i_60 := i4.ext hx9
            have i_61 := i5.ext hx9
            have i_62 := i6.ext hx9
            have i_63 := i8.ext hx9
            have i_64 := hb_10.ext hx9
            have i_65 := h11_3.ext hx9
            have i_66 := h11_6.ext hx9
            have i_67 := h11_7.ext hx9
            have i_68 := h11_8.ext hx9
            have i_69 := h11_10.ext hx9
            have i_70 := h11_12.ext hx9
            have i_71 := h11_13.ext hx9
            have i_72 := h11_16.ext hx9
            have i_73 := h11_17.ext hx9
            have i_74 := h11_18.ext hx9
            have i_75 := h11_19.ext hx9
            obtain ⟨K, L, hK9, hL9⟩ : ∃ (K : Kp) (L : List Nat), K = K9 ∧ L = L9 := ⟨_, _, rfl, rfl⟩
            subst hK9
            subst hL9
            have hP : va_P D vwCl ([(xa, .inr (11, [.ref x0, .int (nI x1), .ref x2, .int (nI x3), .ref x4, .ref x5, .ref x6, .int x7, .ref x8, .int x9, .int x10])), (q_45, .inr (6, [.int k2, .int 0, .ref e0_51]))] ++ va_pl L M_53) H_47 := hP
            have hD : va_D A ([(xa, .inr (11, [.ref x0, .int (nI x1), .ref x2, .int (nI x3), .ref x4, .ref x5, .ref x6, .int x7, .ref x8, .int x9, .int x10])), (q_45, .inr (6, [.int k2, .int 0, .ref e0_51]))] ++ va_pl L M_53) := hD
            have hP : va_P D vwCl (([(xa, .inr (11, [.ref x0, .int (nI x1), .ref x2, .int (nI x3), .ref x4, .ref x5, .ref x6, .int x7, .ref x8, .int x9, .int x10]))] ++ [(q_45, .inr (6, [.int k2, .int 0, .ref e0_51]))]) ++ va_pl L M_53) H_47 := hP.part (cx := [(xa, .inr (11, [.ref x0, .int (nI x1), .ref x2, .int (nI x3), .ref x4, .ref x5, .ref x6, .int x7, .ref x8, .int x9, .int x10]))] ++ [(q_45, .inr (6, [.int k2, .int 0, .ref e0_51]))]) [0, 1] rfl
            have hD : va_D A (([(xa, .inr (11, [.ref x0, .int (nI x1), .ref x2, .int (nI x3), .ref x4, .ref x5, .ref x6, .int x7, .ref x8, .int x9, .int x10]))] ++ [(q_45, .inr (6, [.int k2, .int 0, .ref e0_51]))]) ++ va_pl L M_53) := hD.part (cx := [(xa, .inr (11, [.ref x0, .int (nI x1), .ref x2, .int (nI x3), .ref x4, .ref x5, .ref x6, .int x7, .ref x8, .int x9, .int x10]))] ++ [(q_45, .inr (6, [.int k2, .int 0, .ref e0_51]))]) [0, 1] (by decide) rfl
            obtain ⟨K9, L9, M_76, hx9, i_77, hW, hP, hD, hM_78, hfr9, hq9⟩ := adoptE 6 0 hP hD hW (fun K' L' x i => (⟨k2, 0, e0_51, rfl, i_54.ext x⟩ : gd_6 K' L' _))
            have hM_79 : M_76 b_5 = .inr (2, [.int v11_0, .int v11_1, .int v11_2, .ref v11_3, .int (nI v11_4), .int (nI v11_5), .ref v11_6, .ref v11_7, .ref v11_8, .int (nI v11_9), .ref v11_10, .int (nI v11_11), .ref v11_12, .ref v11_13, .long v11_14, .int v11_15, .ref v11_16, .ref v11_17, .ref v11_18, .ref v11_19]) := (hfr9 _ i_64.1).trans hM_57
            have hF : fr K0 L0 [2, 20] M0 M_76 := hF.adX hX0 hfr9
            have hT2 : fT 2 K0 L0 [11] M0 M_76 := hT2.adX hX0 hfr9
            have hX0 := hX0.tr hx9
            have i_80 := i_58.ext hx9
            have i_81 := i_59.ext hx9
            have i_82 := i_60.ext hx9
            have i_83 := i_61.ext hx9
            have i_84 := i_62.ext hx9
            have i_85 := i_63.ext hx9
            have i_86 := i_64.ext hx9
            have i_87 := i_65.ext hx9
            have i_88 := i_66.ext hx9
            have i_89 := i_67.ext hx9
            have i_90 := i_68.ext hx9
            have i_91 := i_69.ext hx9
            have i_92 := i_70.ext hx9
            have i_93 := i_71.ext hx9
            have i_94 := i_72.ext hx9
            have i_95 := i_73.ext hx9
            have i_96 := i_74.ext hx9
            have i_97 := i_75.ext hx9
            obtain ⟨K, L, hK9, hL9⟩ : ∃ (K : Kp) (L : List Nat), K = K9 ∧ L = L9 := ⟨_, _, rfl, rfl⟩
            subst hK9
            subst hL9
            have hP : va_P D vwCl ([(xa, .inr (11, [.ref x0, .int (nI x1), .ref x2, .int (nI x3), .ref x4, .ref x5, .ref x6, .int x7, .ref x8, .int x9, .int x10]))] ++ va_pl L M_76) H_47 := hP
            have hD : va_D A ([(xa, .inr (11, [.ref x0, .int (nI x1), .ref x2, .int (nI x3), .ref x4, .ref x5, .ref x6, .int x7, .ref x8, .int x9, .int x10]))] ++ va_pl L M_76) := hD
            obtain ⟨f98, hM98, hf98⟩ := hW.open_20 i_91
            obtain ⟨v100_0, v100_1, v100_2, hM100, h100_2⟩ := hW.open_6 i_77
            refine pg_astq (r := (RX6, TX6, 3)) hx hb hK hP hD hS i_91.1 6 6 hM98 rfl i_77.1 hM100 rfl (inbN v11_11 16 (by omega) (by omega)) dX11_rule_112 (fun H_99 locs hP hD hS => ?_)
            obtain ⟨M_101, eM_101⟩ : ∃ M1 : Hp, M1 = va_up M_76 v11_10 (.inl (cy 20, 16, .inr (.inr (.inr (.inr (va_up f98 ((nI v11_11) : Int32).toNatClampNeg (some q_45))))))) := ⟨_, rfl⟩
            have hP : va_P D vwCl ([(xa, .inr (11, [.ref x0, .int (nI x1), .ref x2, .int (nI x3), .ref x4, .ref x5, .ref x6, .int x7, .ref x8, .int x9, .int x10]))] ++ va_pl L M_101) H_99 := by rw [eM_101]; exact hP
            have hD : va_D A ([(xa, .inr (11, [.ref x0, .int (nI x1), .ref x2, .int (nI x3), .ref x4, .ref x5, .ref x6, .int x7, .ref x8, .int x9, .int x10]))] ++ va_pl L M_101) := by rw [eM_101]; exact hD
            have hW : WOK cy K L M_101 := by rw [eM_101]; exact hW.up_20 i_91 ⟨_, rfl, (upN hf98 i_77)⟩
            have hF : fr K0 L0 [2, 20] M0 M_101 := by rw [eM_101]; exact hF.upX hX0 i_91 (by decide)
            have hT2 : fT 2 K0 L0 [11] M0 M_101 := by rw [eM_101]; exact hT2.neX hX0 i_91 (by decide)
            have hM_102 : M_101 v11_10 = .inl (cy 20, 16, .inr (.inr (.inr (.inr (va_up f98 ((nI v11_11) : Int32).toNatClampNeg (some q_45)))))) := by rw [eM_101]; exact va_up_self _ _ _
            have hM_103 : M_101 b_5 = .inr (2, [.int v11_0, .int v11_1, .int v11_2, .ref v11_3, .int (nI v11_4), .int (nI v11_5), .ref v11_6, .ref v11_7, .ref v11_8, .int (nI v11_9), .ref v11_10, .int (nI v11_11), .ref v11_12, .ref v11_13, .long v11_14, .int v11_15, .ref v11_16, .ref v11_17, .ref v11_18, .ref v11_19]) := by rw [eM_101, va_up_ne _ _ (i_86.neT i_91 (by decide))]; exact hM_79
            have hM_104 : M_101 q_45 = .inr (6, [.int v100_0, .int v100_1, .ref v100_2]) := by rw [eM_101, va_up_ne _ _ (i_77.neT i_91 (by decide))]; exact hM100
            have hf_106 : ∀ j, j < 16 → iskN K L ((va_up f98 ((nI v11_11) : Int32).toNatClampNeg (some q_45)) j) 6 0 := (upN hf98 i_77)
            obtain ⟨f_105, ef_105⟩ : ∃ f : Nat → Option Nat, f = va_up f98 ((nI v11_11) : Int32).toNatClampNeg (some q_45) := ⟨_, rfl⟩
            rw [← ef_105] at hM_102 hf_106
            have hk_107 : f_105 ((nI v11_11) : Int32).toNatClampNeg = some q_45 := by rw [ef_105]; exact va_up_self _ _ _
            clear ef_105
            refine lv_aload_n hx hb dX11_rule_113 rfl (lv_at hl 2 rfl) ?_
            refine lv_dup hx hb dX11_rule_114 rfl ?_
            refine pg_get (D := D) (ci := 2) (v := .int (nI v11_11)) (C := RX2) (T := TX2) (N := 20) hx hb hg inG2 hown hK hP i_86.1 hM_103 rfl 11 (by decide) (hg _ wd_442) (fun _ h9 => h9) rfl dX11_rule_115 ?_
            refine lv_iconst (v := 1) hx hb dX11_rule_118 (by decide) ?_
            refine lv_iadd hx hb dX11_rule_119 ?_
            refine lv_topi (fun f_108 ef_108 => ?_)
            obtain rfl : f_108 = (nI (v11_11 + 1)) := ef_108.trans (nI_add v11_11 1)
            refine pg_put (D := D) (ci := 2) (v := .int (nI (v11_11 + 1))) (ty := .int) (C := RX2) (T := TX2) (N := 20) hx hb hg inG2 tyX2 tyX2_ok nmX2 hown hK hP hD hS i_86.1 hM_103 rfl 11 (by decide) (hg _ wd_442) (fun _ h9 => h9) rfl (by decide +kernel) rfl rfl (Nat.le_of_ble_eq_true rfl) dX11_rule_120 (fun H_109 locs hP hD hS => ?_)
            obtain ⟨M_110, eM_110⟩ : ∃ M1 : Hp, M1 = va_up M_101 b_5 (.inr (2, [.int v11_0, .int v11_1, .int v11_2, .ref v11_3, .int (nI v11_4), .int (nI v11_5), .ref v11_6, .ref v11_7, .ref v11_8, .int (nI v11_9), .ref v11_10, .int (nI (v11_11 + 1)), .ref v11_12, .ref v11_13, .long v11_14, .int v11_15, .ref v11_16, .ref v11_17, .ref v11_18, .ref v11_19])) := ⟨_, rfl⟩
            have hP : va_P D vwCl ([(xa, .inr (11, [.ref x0, .int (nI x1), .ref x2, .int (nI x3), .ref x4, .ref x5, .ref x6, .int x7, .ref x8, .int x9, .int x10]))] ++ va_pl L M_110) H_109 := by rw [eM_110]; exact hP
            have hD : va_D A ([(xa, .inr (11, [.ref x0, .int (nI x1), .ref x2, .int (nI x3), .ref x4, .ref x5, .ref x6, .int x7, .ref x8, .int x9, .int x10]))] ++ va_pl L M_110) := by rw [eM_110]; exact hD
            have hW : WOK cy K L M_110 := by rw [eM_110]; exact hW.up_2 i_86 ⟨v11_0, v11_1, v11_2, v11_3, v11_4, v11_5, v11_6, v11_7, v11_8, v11_9, v11_10, (v11_11 + 1), v11_12, v11_13, v11_14, v11_15, v11_16, v11_17, v11_18, v11_19, rfl, i_87, h11_4, h11_5, i_88, i_89, i_90, h11_9, i_91, (by omega), i_92, i_93, i_94, i_95, i_96, i_97⟩
            have hF : fr K0 L0 [2, 20] M0 M_110 := by rw [eM_110]; exact hF.upX hX0 i_86 (by decide)
            have hT2 : fT 2 K0 L0 [11] M0 M_110 := by rw [eM_110]; exact hT2.up (i := 11) hM_103 rfl (by decide)
            have hM_111 : M_110 b_5 = .inr (2, [.int v11_0, .int v11_1, .int v11_2, .ref v11_3, .int (nI v11_4), .int (nI v11_5), .ref v11_6, .ref v11_7, .ref v11_8, .int (nI v11_9), .ref v11_10, .int (nI (v11_11 + 1)), .ref v11_12, .ref v11_13, .long v11_14, .int v11_15, .ref v11_16, .ref v11_17, .ref v11_18, .ref v11_19]) := by rw [eM_110]; exact va_up_self _ _ _
            have hM_112 : M_110 v11_10 = .inl (cy 20, 16, .inr (.inr (.inr (.inr (f_105))))) := by rw [eM_110, va_up_ne _ _ (i_91.neT i_86 (by decide))]; exact hM_102
            have hM_113 : M_110 q_45 = .inr (6, [.int v100_0, .int v100_1, .ref v100_2]) := by rw [eM_110, va_up_ne _ _ (i_77.neT i_86 (by decide))]; exact hM_104
            have hb_114 : (v11_11 + 1) ≤ 16 := by omega
            refine lv_aload_n hx hb dX11_rule_123 rfl (lv_at hl 3 rfl) ?_
            refine lv_aload_n hx hb dX11_rule_124 rfl (lv_at hl 2 rfl) ?_
            refine pg_get (D := D) (ci := 2) (v := .int (nI (v11_11 + 1))) (C := RX2) (T := TX2) (N := 20) hx hb hg inG2 hown hK hP i_86.1 hM_111 rfl 11 (by decide) (hg _ wd_442) (fun _ h9 => h9) rfl dX11_rule_125 ?_
            have hPc := hP.sub (ws' := [(xa, .inr (11, [.ref x0, .int (nI x1), .ref x2, .int (nI x3), .ref x4, .ref x5, .ref x6, .int x7, .ref x8, .int x9, .int x10]))]) [0] rfl
            have hDc := hD.sub (ws' := [(xa, .inr (11, [.ref x0, .int (nI x1), .ref x2, .int (nI x3), .ref x4, .ref x5, .ref x6, .int x7, .ref x8, .int x9, .int x10]))]) [0] (by decide) rfl
            have hKc := hK.sub (tys' := []) [] rfl
            have hFc := va_free (wc := [(xa, .inr (11, [.ref x0, .int (nI x1), .ref x2, .int (nI x3), .ref x4, .ref x5, .ref x6, .int x7, .ref x8, .int x9, .int x10]))]) hD hS hA [0] rfl
            refine va_calli (va_runV (As := [.int (nI (v11_11 + 1))]) (rest := []) ⟨hx, hb, hml, hown, hg⟩ (k_accept l D H_109.size xa x0 (nI x1) x2 (nI x3) x4 x5 x6 x7 x8 x9 x10 (nI (v11_11 + 1))) (cwV 1 hg (gV wd_356 wd_357 wd_358 wd_3 wd_359) rfl rfl rfl (by decide +kernel) ⟨(Nat.le_trans (Nat.le_of_ble_eq_true rfl) hRf), (Nat.le_trans (Nat.le_of_ble_eq_true rfl) hRl)⟩) ⟨Pr.blind, va_recv hK hP (ci := 11) (q0 := 0) rfl rfl, fun U hU hW => ⟨rfl, Pr.at hPc hKc hDc hN hU hW⟩⟩ rfl rfl hl.1 rfl (lv_room (Nat.le_of_ble_eq_true rfl)) dX11_rule_128 ⟨(Nat.le_trans (Nat.le_of_ble_eq_true rfl) hRc), (Nat.le_trans (Nat.le_of_ble_eq_true rfl) hRs)⟩) hS (fun q _ h => hFc q h) hFc (fun r_116 M_117 t H_115 locs ht hvm hw hB hz1 hk1 hS => ?_)
            have hp_118 := hw
            obtain ⟨hP1, hK1, hD1⟩ := hB
            rw [ht] at hP1
            obtain ⟨hP, hD⟩ := va_joinQ (X := [(xa, .inr (11, [.ref x0, .int (nI x1), .ref x2, .int (nI x3), .ref x4, .ref x5, .ref x6, .int x7, .ref x8, .int x9, .int x10]))]) (cx := [(xa, .inr (11, [.ref x0, .int (nI x1), .ref x2, .int (nI x3), .ref x4, .ref x5, .ref x6, .int x7, .ref x8, .int x9, .int x10]))]) (wr := []) (w1 := [(xa, .inr (11, [.ref x0, .int (nI x1), .ref x2, .int (nI x3), .ref x4, .ref x5, .ref x6, .int x7, .ref x8, .int 0, .int (-1)]))]) (pl := va_pl L M_110) hP hD [0] [] rfl rfl (by decide) (by decide) hk1 hFc hP1 hD1
            have hP : va_P D vwCl ([(xa, .inr (11, [.ref x0, .int (nI x1), .ref x2, .int (nI x3), .ref x4, .ref x5, .ref x6, .int x7, .ref x8, .int 0, .int (-1)]))] ++ va_pl L M_110) H_115 := hP
            have hD : va_D A ([(xa, .inr (11, [.ref x0, .int (nI x1), .ref x2, .int (nI x3), .ref x4, .ref x5, .ref x6, .int x7, .ref x8, .int 0, .int (-1)]))] ++ va_pl L M_110) := hD
            have hq := Eq.symm hp_118
            subst hq
            rw [hQ]
            exact W.iret (v := (nI (v11_11 + 1))) hx hb hr (fun t ht hW9 => ⟨⟨(nI (v11_11 + 1)), (K, L, M_110), rfl, ⟨hX0, hW, hF, hT2, trivial⟩, ⟨0, (-1), by rw [ht]; exact hP, hD⟩⟩, hS.F ht⟩) hS.2.2 dX11_rule_131
          · have hz := rfl (a := 0)
            have n_119 : ¬ (v11_11 < 16) := fun q => c_43 ((iLT (a := v11_11) (b := 16) (by omega) (by omega)).mpr q)
            refine lv_aload_n hx hb dX11_rule_87 rfl (lv_at hl 3 rfl) ?_
            refine lv_bipush (v := 9) hx hb dX11_rule_88 (by decide) ?_
            have hPc := hP.sub (ws' := [(xa, .inr (11, [.ref x0, .int (nI x1), .ref x2, .int (nI x3), .ref x4, .ref x5, .ref x6, .int x7, .ref x8, .int x9, .int x10]))]) [0] rfl
            have hDc := hD.sub (ws' := [(xa, .inr (11, [.ref x0, .int (nI x1), .ref x2, .int (nI x3), .ref x4, .ref x5, .ref x6, .int x7, .ref x8, .int x9, .int x10]))]) [0] (by decide) rfl
            have hKc := hK.sub (tys' := []) [] rfl
            have hFc := va_free (wc := [(xa, .inr (11, [.ref x0, .int (nI x1), .ref x2, .int (nI x3), .ref x4, .ref x5, .ref x6, .int x7, .ref x8, .int x9, .int x10]))]) hD hS hA [0] rfl
            refine va_calli (va_runV (As := [.int 9]) (rest := []) ⟨hx, hb, hml, hown, hg⟩ (k_refuse l D H_35.size xa x0 (nI x1) x2 (nI x3) x4 x5 x6 x7 x8 x9 x10 9) (cwV 1 hg (gV wd_344 wd_345 wd_346 wd_3 wd_347) rfl rfl rfl (by decide +kernel) ⟨(Nat.le_trans (Nat.le_of_ble_eq_true rfl) hRf), (Nat.le_trans (Nat.le_of_ble_eq_true rfl) hRl)⟩) ⟨Pr.blind, va_recv hK hP (ci := 11) (q0 := 0) rfl rfl, fun U hU hW => ⟨rfl, Pr.at hPc hKc hDc hN hU hW⟩⟩ rfl rfl hl.1 rfl (lv_room (Nat.le_of_ble_eq_true rfl)) dX11_rule_90 ⟨(Nat.le_trans (Nat.le_of_ble_eq_true rfl) hRc), (Nat.le_trans (Nat.le_of_ble_eq_true rfl) hRs)⟩) hS (fun q _ h => hFc q h) hFc (fun r_121 M_122 t H_120 locs ht hvm hw hB hz1 hk1 hS => ?_)
            have hp_123 := hw
            obtain ⟨hP1, hK1, hD1⟩ := hB
            rw [ht] at hP1
            obtain ⟨hP, hD⟩ := va_joinQ (X := [(xa, .inr (11, [.ref x0, .int (nI x1), .ref x2, .int (nI x3), .ref x4, .ref x5, .ref x6, .int x7, .ref x8, .int x9, .int x10]))]) (cx := [(xa, .inr (11, [.ref x0, .int (nI x1), .ref x2, .int (nI x3), .ref x4, .ref x5, .ref x6, .int x7, .ref x8, .int x9, .int x10]))]) (wr := []) (w1 := [(xa, .inr (11, [.ref x0, .int (nI x1), .ref x2, .int (nI x3), .ref x4, .ref x5, .ref x6, .int x7, .ref x8, .int 9, .int (-1)]))]) (pl := va_pl L M) hP hD [0] [] rfl rfl (by decide) (by decide) hk1 hFc hP1 hD1
            have hP : va_P D vwCl ([(xa, .inr (11, [.ref x0, .int (nI x1), .ref x2, .int (nI x3), .ref x4, .ref x5, .ref x6, .int x7, .ref x8, .int 9, .int (-1)]))] ++ va_pl L M) H_120 := hP
            have hD : va_D A ([(xa, .inr (11, [.ref x0, .int (nI x1), .ref x2, .int (nI x3), .ref x4, .ref x5, .ref x6, .int x7, .ref x8, .int 9, .int (-1)]))] ++ va_pl L M) := hD
            have hq := Eq.symm hp_123
            subst hq
            refine W.widen (k := 2) (n := 27) (Nat.le_of_ble_eq_true rfl) (Nat.le_of_ble_eq_true rfl) ?_
            rw [hQ]
            exact W.iret (v := (-1)) hx hb hr (fun t ht hW9 => ⟨⟨(-1), (K, L, M), rfl, ⟨hX0, hW, hF, hT2, trivial⟩, ⟨9, (-1), by rw [ht]; exact hP, hD⟩⟩, hS.F ht⟩) hS.2.2 dX11_rule_93
        · have hz := rfl (a := 0)
          refine lv_if_eq (tgt := 72) hx hb dX11_rule_64 (by decide) (fun _ => ?_) (fun c_124 => absurd c_124 (by decide))
          refine lv_aload_n hx hb dX11_rule_72 rfl (lv_at hl 3 rfl) ?_
          refine lv_iconst (v := 3) hx hb dX11_rule_73 (by decide) ?_
          have hPc := hP.sub (ws' := [(xa, .inr (11, [.ref x0, .int (nI x1), .ref x2, .int (nI x3), .ref x4, .ref x5, .ref x6, .int x7, .ref x8, .int x9, .int x10]))]) [0] rfl
          have hDc := hD.sub (ws' := [(xa, .inr (11, [.ref x0, .int (nI x1), .ref x2, .int (nI x3), .ref x4, .ref x5, .ref x6, .int x7, .ref x8, .int x9, .int x10]))]) [0] (by decide) rfl
          have hKc := hK.sub (tys' := []) [] rfl
          have hFc := va_free (wc := [(xa, .inr (11, [.ref x0, .int (nI x1), .ref x2, .int (nI x3), .ref x4, .ref x5, .ref x6, .int x7, .ref x8, .int x9, .int x10]))]) hD hS hA [0] rfl
          refine va_calli (va_runV (As := [.int 3]) (rest := []) ⟨hx, hb, hml, hown, hg⟩ (k_refuse l D H_35.size xa x0 (nI x1) x2 (nI x3) x4 x5 x6 x7 x8 x9 x10 3) (cwV 1 hg (gV wd_344 wd_345 wd_346 wd_3 wd_347) rfl rfl rfl (by decide +kernel) ⟨(Nat.le_trans (Nat.le_of_ble_eq_true rfl) hRf), (Nat.le_trans (Nat.le_of_ble_eq_true rfl) hRl)⟩) ⟨Pr.blind, va_recv hK hP (ci := 11) (q0 := 0) rfl rfl, fun U hU hW => ⟨rfl, Pr.at hPc hKc hDc hN hU hW⟩⟩ rfl rfl hl.1 rfl (lv_room (Nat.le_of_ble_eq_true rfl)) dX11_rule_74 ⟨(Nat.le_trans (Nat.le_of_ble_eq_true rfl) hRc), (Nat.le_trans (Nat.le_of_ble_eq_true rfl) hRs)⟩) hS (fun q _ h => hFc q h) hFc (fun r_126 M_127 t H_125 locs ht hvm hw hB hz1 hk1 hS => ?_)
          have hp_128 := hw
          obtain ⟨hP1, hK1, hD1⟩ := hB
          rw [ht] at hP1
          obtain ⟨hP, hD⟩ := va_joinQ (X := [(xa, .inr (11, [.ref x0, .int (nI x1), .ref x2, .int (nI x3), .ref x4, .ref x5, .ref x6, .int x7, .ref x8, .int x9, .int x10]))]) (cx := [(xa, .inr (11, [.ref x0, .int (nI x1), .ref x2, .int (nI x3), .ref x4, .ref x5, .ref x6, .int x7, .ref x8, .int x9, .int x10]))]) (wr := []) (w1 := [(xa, .inr (11, [.ref x0, .int (nI x1), .ref x2, .int (nI x3), .ref x4, .ref x5, .ref x6, .int x7, .ref x8, .int 3, .int (-1)]))]) (pl := va_pl L M) hP hD [0] [] rfl rfl (by decide) (by decide) hk1 hFc hP1 hD1
          have hP : va_P D vwCl ([(xa, .inr (11, [.ref x0, .int (nI x1), .ref x2, .int (nI x3), .ref x4, .ref x5, .ref x6, .int x7, .ref x8, .int 3, .int (-1)]))] ++ va_pl L M) H_125 := hP
          have hD : va_D A ([(xa, .inr (11, [.ref x0, .int (nI x1), .ref x2, .int (nI x3), .ref x4, .ref x5, .ref x6, .int x7, .ref x8, .int 3, .int (-1)]))] ++ va_pl L M) := hD
          have hq := Eq.symm hp_128
          subst hq
          refine W.widen (k := 2) (n := 27) (Nat.le_of_ble_eq_true rfl) (Nat.le_of_ble_eq_true rfl) ?_
          rw [hQ]
          exact W.iret (v := (-1)) hx hb hr (fun t ht hW9 => ⟨⟨(-1), (K, L, M), rfl, ⟨hX0, hW, hF, hT2, trivial⟩, ⟨3, (-1), by rw [ht]; exact hP, hD⟩⟩, hS.F ht⟩) hS.2.2 dX11_rule_77
    · have hb_129 := hp_15 b_16 rfl
      refine lv_astore (lv' := [(4, .ref b_16), (3, .ref b_5), (0, .ref xa), (1, .int k1), (2, .int k2)]) hx hb dX11_rule_20 hl (by decide) rfl (fun ls hl => ?_)
      refine lv_aload hx hb dX11_rule_22 (lv_at hl 0 rfl) ?_
      refine lv_ifnonnull (tgt := 43) hx hb dX11_rule_24 (by decide) ?_
      refine lv_iload_n hx hb dX11_rule_43 rfl (lv_at hl 4 rfl) ?_
      refine lv_aload hx hb dX11_rule_44 (lv_at hl 0 rfl) ?_
      obtain ⟨v130_0, v130_1, v130_2, hM130, h130_2⟩ := hW.open_6 hb_129
      refine pg_get (D := D) (ci := 6) (v := .int v130_0) (C := RX6) (T := TX6) (N := 3) hx hb hg inG6 hown hK hP hb_129.1 hM130 rfl 0 (by decide) (hg _ wd_585) (fun _ h9 => h9) rfl dX11_rule_46 ?_
      refine lv_icmp_le (tgt := 56) hx hb dX11_rule_49 (by decide) (fun c_131 => ?_) (fun c_131 => ?_)
      · have hz := rfl (a := 0)
        refine lv_iconst (v := 0) hx hb dX11_rule_56 (by decide) ?_
        refine lv_istore (lv' := [(5, .int 0), (4, .ref b_16), (3, .ref b_5), (0, .ref xa), (1, .int k1), (2, .int k2)]) hx hb dX11_rule_57 hl (by decide) rfl (fun ls hl => ?_)
        refine lv_aload_n hx hb dX11_rule_59 rfl (lv_at hl 2 rfl) ?_
        refine lv_iload_n hx hb dX11_rule_60 rfl (lv_at hl 5 rfl) ?_
        have hPc : va_P D vwCl ([] ++ va_pl L M) H_12 := hP.part (cx := []) [] rfl
        have hDc : va_D A ([] ++ va_pl L M) := hD.part (cx := []) [] (by decide) rfl
        have hFc : ∀ q, va_A ([] ++ va_pl L M) H_12.size q → A q := pg_free hDc hS hA
        refine va_calli (va_runV (As := [.int k2]) (rest := []) ⟨hx, hb, hml, hown, hg⟩ (s_X2_isFree l D cy K L M H_12.size b_5 k2  hW hb_10) (cwV 1 hg (gV wd_361 wd_362 wd_363 wd_57 wd_364) rfl rfl rfl (by decide +kernel) ⟨(Nat.le_trans (Nat.le_of_ble_eq_true rfl) hRf), (Nat.le_trans (Nat.le_of_ble_eq_true rfl) hRl)⟩) ⟨PG.blind, pg_recv hK hP hb_10.1 hM11 rfl, fun U hU hW => ⟨rfl, PG.at hPc hK hDc hN hU hW⟩⟩ rfl rfl hl.1 rfl (lv_room (Nat.le_of_ble_eq_true rfl)) dX11_rule_61 ⟨(Nat.le_trans (Nat.le_of_ble_eq_true rfl) hRc), (Nat.le_trans (Nat.le_of_ble_eq_true rfl) hRs)⟩) hS (fun q _ h => hFc q h) hFc (fun r_133 M_134 t H_132 locs ht hvm hw hB hz1 hk1 hS => ?_)
        have hp_135 := hw
        obtain ⟨hP1, hD1⟩ := hB
        rw [ht] at hP1
        obtain ⟨hP, hD⟩ := va_joinP (X := [(xa, .inr (11, [.ref x0, .int (nI x1), .ref x2, .int (nI x3), .ref x4, .ref x5, .ref x6, .int x7, .ref x8, .int x9, .int x10]))]) (cx := []) (wr := [(xa, .inr (11, [.ref x0, .int (nI x1), .ref x2, .int (nI x3), .ref x4, .ref x5, .ref x6, .int x7, .ref x8, .int x9, .int x10]))]) (rx := []) (pl := va_pl L M) (pl1 := va_pl L M) hP hD [] [0] rfl rfl (by decide) (by decide) hk1 hFc hP1 hD1
        have hP : va_P D vwCl ([(xa, .inr (11, [.ref x0, .int (nI x1), .ref x2, .int (nI x3), .ref x4, .ref x5, .ref x6, .int x7, .ref x8, .int x9, .int x10]))] ++ va_pl L M) H_132 := hP
        have hD : va_D A ([(xa, .inr (11, [.ref x0, .int (nI x1), .ref x2, .int (nI x3), .ref x4, .ref x5, .ref x6, .int x7, .ref x8, .int x9, .int x10]))] ++ va_pl L M) := hD
        rcases hp_135 with ⟨rfl, c_136, c_137⟩ | rfl
        · have hz := rfl (a := 0)
          refine lv_if_eq (tgt := 72) hx hb dX11_rule_64 (by decide) (fun c_138 => absurd c_138 (by decide)) (fun _ => ?_)
          refine lv_iload hx hb dX11_rule_67 (lv_at hl 0 rfl) ?_
          refine lv_if_ne (tgt := 78) hx hb dX11_rule_69 (by decide) (fun c_139 => absurd c_139 (by decide)) (fun _ => ?_)
          refine lv_aload_n hx hb dX11_rule_72 rfl (lv_at hl 3 rfl) ?_
          refine lv_iconst (v := 3) hx hb dX11_rule_73 (by decide) ?_
          have hPc := hP.sub (ws' := [(xa, .inr (11, [.ref x0, .int (nI x1), .ref x2, .int (nI x3), .ref x4, .ref x5, .ref x6, .int x7, .ref x8, .int x9, .int x10]))]) [0] rfl
          have hDc := hD.sub (ws' := [(xa, .inr (11, [.ref x0, .int (nI x1), .ref x2, .int (nI x3), .ref x4, .ref x5, .ref x6, .int x7, .ref x8, .int x9, .int x10]))]) [0] (by decide) rfl
          have hKc := hK.sub (tys' := []) [] rfl
          have hFc := va_free (wc := [(xa, .inr (11, [.ref x0, .int (nI x1), .ref x2, .int (nI x3), .ref x4, .ref x5, .ref x6, .int x7, .ref x8, .int x9, .int x10]))]) hD hS hA [0] rfl
          refine va_calli (va_runV (As := [.int 3]) (rest := []) ⟨hx, hb, hml, hown, hg⟩ (k_refuse l D H_132.size xa x0 (nI x1) x2 (nI x3) x4 x5 x6 x7 x8 x9 x10 3) (cwV 1 hg (gV wd_344 wd_345 wd_346 wd_3 wd_347) rfl rfl rfl (by decide +kernel) ⟨(Nat.le_trans (Nat.le_of_ble_eq_true rfl) hRf), (Nat.le_trans (Nat.le_of_ble_eq_true rfl) hRl)⟩) ⟨Pr.blind, va_recv hK hP (ci := 11) (q0 := 0) rfl rfl, fun U hU hW => ⟨rfl, Pr.at hPc hKc hDc hN hU hW⟩⟩ rfl rfl hl.1 rfl (lv_room (Nat.le_of_ble_eq_true rfl)) dX11_rule_74 ⟨(Nat.le_trans (Nat.le_of_ble_eq_true rfl) hRc), (Nat.le_trans (Nat.le_of_ble_eq_true rfl) hRs)⟩) hS (fun q _ h => hFc q h) hFc (fun r_141 M_142 t H_140 locs ht hvm hw hB hz1 hk1 hS => ?_)
          have hp_143 := hw
          obtain ⟨hP1, hK1, hD1⟩ := hB
          rw [ht] at hP1
          obtain ⟨hP, hD⟩ := va_joinQ (X := [(xa, .inr (11, [.ref x0, .int (nI x1), .ref x2, .int (nI x3), .ref x4, .ref x5, .ref x6, .int x7, .ref x8, .int x9, .int x10]))]) (cx := [(xa, .inr (11, [.ref x0, .int (nI x1), .ref x2, .int (nI x3), .ref x4, .ref x5, .ref x6, .int x7, .ref x8, .int x9, .int x10]))]) (wr := []) (w1 := [(xa, .inr (11, [.ref x0, .int (nI x1), .ref x2, .int (nI x3), .ref x4, .ref x5, .ref x6, .int x7, .ref x8, .int 3, .int (-1)]))]) (pl := va_pl L M) hP hD [0] [] rfl rfl (by decide) (by decide) hk1 hFc hP1 hD1
          have hP : va_P D vwCl ([(xa, .inr (11, [.ref x0, .int (nI x1), .ref x2, .int (nI x3), .ref x4, .ref x5, .ref x6, .int x7, .ref x8, .int 3, .int (-1)]))] ++ va_pl L M) H_140 := hP
          have hD : va_D A ([(xa, .inr (11, [.ref x0, .int (nI x1), .ref x2, .int (nI x3), .ref x4, .ref x5, .ref x6, .int x7, .ref x8, .int 3, .int (-1)]))] ++ va_pl L M) := hD
          have hq := Eq.symm hp_143
          subst hq
          refine W.widen (k := 2) (n := 27) (Nat.le_of_ble_eq_true rfl) (Nat.le_of_ble_eq_true rfl) ?_
          rw [hQ]
          exact W.iret (v := (-1)) hx hb hr (fun t ht hW9 => ⟨⟨(-1), (K, L, M), rfl, ⟨hX0, hW, hF, hT2, trivial⟩, ⟨3, (-1), by rw [ht]; exact hP, hD⟩⟩, hS.F ht⟩) hS.2.2 dX11_rule_77
        · have hz := rfl (a := 0)
          refine lv_if_eq (tgt := 72) hx hb dX11_rule_64 (by decide) (fun _ => ?_) (fun c_144 => absurd c_144 (by decide))
          refine lv_aload_n hx hb dX11_rule_72 rfl (lv_at hl 3 rfl) ?_
          refine lv_iconst (v := 3) hx hb dX11_rule_73 (by decide) ?_
          have hPc := hP.sub (ws' := [(xa, .inr (11, [.ref x0, .int (nI x1), .ref x2, .int (nI x3), .ref x4, .ref x5, .ref x6, .int x7, .ref x8, .int x9, .int x10]))]) [0] rfl
          have hDc := hD.sub (ws' := [(xa, .inr (11, [.ref x0, .int (nI x1), .ref x2, .int (nI x3), .ref x4, .ref x5, .ref x6, .int x7, .ref x8, .int x9, .int x10]))]) [0] (by decide) rfl
          have hKc := hK.sub (tys' := []) [] rfl
          have hFc := va_free (wc := [(xa, .inr (11, [.ref x0, .int (nI x1), .ref x2, .int (nI x3), .ref x4, .ref x5, .ref x6, .int x7, .ref x8, .int x9, .int x10]))]) hD hS hA [0] rfl
          refine va_calli (va_runV (As := [.int 3]) (rest := []) ⟨hx, hb, hml, hown, hg⟩ (k_refuse l D H_132.size xa x0 (nI x1) x2 (nI x3) x4 x5 x6 x7 x8 x9 x10 3) (cwV 1 hg (gV wd_344 wd_345 wd_346 wd_3 wd_347) rfl rfl rfl (by decide +kernel) ⟨(Nat.le_trans (Nat.le_of_ble_eq_true rfl) hRf), (Nat.le_trans (Nat.le_of_ble_eq_true rfl) hRl)⟩) ⟨Pr.blind, va_recv hK hP (ci := 11) (q0 := 0) rfl rfl, fun U hU hW => ⟨rfl, Pr.at hPc hKc hDc hN hU hW⟩⟩ rfl rfl hl.1 rfl (lv_room (Nat.le_of_ble_eq_true rfl)) dX11_rule_74 ⟨(Nat.le_trans (Nat.le_of_ble_eq_true rfl) hRc), (Nat.le_trans (Nat.le_of_ble_eq_true rfl) hRs)⟩) hS (fun q _ h => hFc q h) hFc (fun r_146 M_147 t H_145 locs ht hvm hw hB hz1 hk1 hS => ?_)
          have hp_148 := hw
          obtain ⟨hP1, hK1, hD1⟩ := hB
          rw [ht] at hP1
          obtain ⟨hP, hD⟩ := va_joinQ (X := [(xa, .inr (11, [.ref x0, .int (nI x1), .ref x2, .int (nI x3), .ref x4, .ref x5, .ref x6, .int x7, .ref x8, .int x9, .int x10]))]) (cx := [(xa, .inr (11, [.ref x0, .int (nI x1), .ref x2, .int (nI x3), .ref x4, .ref x5, .ref x6, .int x7, .ref x8, .int x9, .int x10]))]) (wr := []) (w1 := [(xa, .inr (11, [.ref x0, .int (nI x1), .ref x2, .int (nI x3), .ref x4, .ref x5, .ref x6, .int x7, .ref x8, .int 3, .int (-1)]))]) (pl := va_pl L M) hP hD [0] [] rfl rfl (by decide) (by decide) hk1 hFc hP1 hD1
          have hP : va_P D vwCl ([(xa, .inr (11, [.ref x0, .int (nI x1), .ref x2, .int (nI x3), .ref x4, .ref x5, .ref x6, .int x7, .ref x8, .int 3, .int (-1)]))] ++ va_pl L M) H_145 := hP
          have hD : va_D A ([(xa, .inr (11, [.ref x0, .int (nI x1), .ref x2, .int (nI x3), .ref x4, .ref x5, .ref x6, .int x7, .ref x8, .int 3, .int (-1)]))] ++ va_pl L M) := hD
          have hq := Eq.symm hp_148
          subst hq
          refine W.widen (k := 2) (n := 27) (Nat.le_of_ble_eq_true rfl) (Nat.le_of_ble_eq_true rfl) ?_
          rw [hQ]
          exact W.iret (v := (-1)) hx hb hr (fun t ht hW9 => ⟨⟨(-1), (K, L, M), rfl, ⟨hX0, hW, hF, hT2, trivial⟩, ⟨3, (-1), by rw [ht]; exact hP, hD⟩⟩, hS.F ht⟩) hS.2.2 dX11_rule_77
      · have hz := rfl (a := 0)
        refine lv_iconst (v := 1) hx hb dX11_rule_52 (by decide) ?_
        refine lv_goto (tgt := 57) hx hb dX11_rule_53 (by decide) ?_
        refine lv_istore (lv' := [(5, .int 1), (4, .ref b_16), (3, .ref b_5), (0, .ref xa), (1, .int k1), (2, .int k2)]) hx hb dX11_rule_57 hl (by decide) rfl (fun ls hl => ?_)
        refine lv_aload_n hx hb dX11_rule_59 rfl (lv_at hl 2 rfl) ?_
        refine lv_iload_n hx hb dX11_rule_60 rfl (lv_at hl 5 rfl) ?_
        have hPc : va_P D vwCl ([] ++ va_pl L M) H_12 := hP.part (cx := []) [] rfl
        have hDc : va_D A ([] ++ va_pl L M) := hD.part (cx := []) [] (by decide) rfl
        have hFc : ∀ q, va_A ([] ++ va_pl L M) H_12.size q → A q := pg_free hDc hS hA
        refine va_calli (va_runV (As := [.int k2]) (rest := []) ⟨hx, hb, hml, hown, hg⟩ (s_X2_isFree l D cy K L M H_12.size b_5 k2  hW hb_10) (cwV 1 hg (gV wd_361 wd_362 wd_363 wd_57 wd_364) rfl rfl rfl (by decide +kernel) ⟨(Nat.le_trans (Nat.le_of_ble_eq_true rfl) hRf), (Nat.le_trans (Nat.le_of_ble_eq_true rfl) hRl)⟩) ⟨PG.blind, pg_recv hK hP hb_10.1 hM11 rfl, fun U hU hW => ⟨rfl, PG.at hPc hK hDc hN hU hW⟩⟩ rfl rfl hl.1 rfl (lv_room (Nat.le_of_ble_eq_true rfl)) dX11_rule_61 ⟨(Nat.le_trans (Nat.le_of_ble_eq_true rfl) hRc), (Nat.le_trans (Nat.le_of_ble_eq_true rfl) hRs)⟩) hS (fun q _ h => hFc q h) hFc (fun r_150 M_151 t H_149 locs ht hvm hw hB hz1 hk1 hS => ?_)
        have hp_152 := hw
        obtain ⟨hP1, hD1⟩ := hB
        rw [ht] at hP1
        obtain ⟨hP, hD⟩ := va_joinP (X := [(xa, .inr (11, [.ref x0, .int (nI x1), .ref x2, .int (nI x3), .ref x4, .ref x5, .ref x6, .int x7, .ref x8, .int x9, .int x10]))]) (cx := []) (wr := [(xa, .inr (11, [.ref x0, .int (nI x1), .ref x2, .int (nI x3), .ref x4, .ref x5, .ref x6, .int x7, .ref x8, .int x9, .int x10]))]) (rx := []) (pl := va_pl L M) (pl1 := va_pl L M) hP hD [] [0] rfl rfl (by decide) (by decide) hk1 hFc hP1 hD1
        have hP : va_P D vwCl ([(xa, .inr (11, [.ref x0, .int (nI x1), .ref x2, .int (nI x3), .ref x4, .ref x5, .ref x6, .int x7, .ref x8, .int x9, .int x10]))] ++ va_pl L M) H_149 := hP
        have hD : va_D A ([(xa, .inr (11, [.ref x0, .int (nI x1), .ref x2, .int (nI x3), .ref x4, .ref x5, .ref x6, .int x7, .ref x8, .int x9, .int x10]))] ++ va_pl L M) := hD
        rcases hp_152 with ⟨rfl, c_153, c_154⟩ | rfl
        · have hz := rfl (a := 0)
          refine lv_if_eq (tgt := 72) hx hb dX11_rule_64 (by decide) (fun c_155 => absurd c_155 (by decide)) (fun _ => ?_)
          refine lv_iload hx hb dX11_rule_67 (lv_at hl 0 rfl) ?_
          refine lv_if_ne (tgt := 78) hx hb dX11_rule_69 (by decide) (fun _ => ?_) (fun c_156 => absurd c_156 (by decide))
          refine lv_aload_n hx hb dX11_rule_78 rfl (lv_at hl 2 rfl) ?_
          refine pg_get (D := D) (ci := 2) (v := .int (nI v11_11)) (C := RX2) (T := TX2) (N := 20) hx hb hg inG2 hown hK hP hb_10.1 hM11 rfl 11 (by decide) (hg _ wd_442) (fun _ h9 => h9) rfl dX11_rule_79 ?_
          refine lv_bipush (v := 16) hx hb dX11_rule_82 (by decide) ?_
          refine lv_icmp_lt (tgt := 94) hx hb dX11_rule_84 (by decide) (fun c_157 => ?_) (fun c_157 => ?_)
          · have hz := rfl (a := 0)
            have n_158 : v11_11 < 16 := (iLT (a := v11_11) (b := 16) (by omega) (by omega)).mp c_157
            refine lv_aload_n hx hb dX11_rule_94 rfl (lv_at hl 2 rfl) ?_
            refine pg_get (D := D) (ci := 2) (v := .ref v11_10) (C := RX2) (T := TX2) (N := 20) hx hb hg inG2 hown hK hP hb_10.1 hM11 rfl 10 (by decide) (hg _ wd_579) (fun _ h9 => h9) rfl dX11_rule_95 ?_
            refine lv_aload_n hx hb dX11_rule_98 rfl (lv_at hl 2 rfl) ?_
            refine pg_get (D := D) (ci := 2) (v := .int (nI v11_11)) (C := RX2) (T := TX2) (N := 20) hx hb hg inG2 hown hK hP hb_10.1 hM11 rfl 11 (by decide) (hg _ wd_442) (fun _ h9 => h9) rfl dX11_rule_99 ?_
            refine va_new (ci := 6) (fs := [.int 0, .int 0, .null]) (C := RX6) (T := TX6) (N := 3) hx hb hg inG6 tyX6 tyX6_ok hown (hg _ wd_580) (hg _ wd_581) (hg _ wd_97) hK hP hD hS hA rfl dfX6 (Nat.le_trans (Nat.le_of_ble_eq_true rfl) hRc) (Nat.le_trans (Nat.le_of_ble_eq_true rfl) hRs) dX11_rule_102 (fun q_159 H_160 hP hD hS => ?_)
            have hP : va_P D vwCl ([(xa, .inr (11, [.ref x0, .int (nI x1), .ref x2, .int (nI x3), .ref x4, .ref x5, .ref x6, .int x7, .ref x8, .int x9, .int x10])), (q_159, .inr (6, [.int 0, .int 0, .null]))] ++ va_pl L M) H_160 := hP.swap
            have hD : va_D A ([(xa, .inr (11, [.ref x0, .int (nI x1), .ref x2, .int (nI x3), .ref x4, .ref x5, .ref x6, .int x7, .ref x8, .int x9, .int x10])), (q_159, .inr (6, [.int 0, .int 0, .null]))] ++ va_pl L M) := hD.swap
            refine W.widen (k := 1) (n := 3) (Nat.le_of_ble_eq_true rfl) (Nat.le_of_ble_eq_true rfl) ?_
            refine lv_dup hx hb dX11_rule_105 rfl ?_
            refine lv_iload_n hx hb dX11_rule_106 rfl (lv_at hl 5 rfl) ?_
            refine lv_aload hx hb dX11_rule_107 (lv_at hl 1 rfl) ?_
            have hPc : va_P D vwCl ([(q_159, .inr (6, [.int 0, .int 0, .null]))] ++ va_pl L M) H_160 := hP.part (cx := [(q_159, .inr (6, [.int 0, .int 0, .null]))]) [1] rfl
            have hDc : va_D A ([(q_159, .inr (6, [.int 0, .int 0, .null]))] ++ va_pl L M) := hD.part (cx := [(q_159, .inr (6, [.int 0, .int 0, .null]))]) [1] (by decide) rfl
            have hFc : ∀ q, va_A ([(q_159, .inr (6, [.int 0, .int 0, .null]))] ++ va_pl L M) H_160.size q → A q := pg_free hDc hS hA
            refine va_callv (va_runI (As := [.int k2, .ref b_16]) (rest := [.ref q_159, .int (nI v11_11), .ref v11_10]) ⟨hx, hb, hml, hown, hg⟩ (k_Rule_s l D cy K L M H_160.size q_159 k2 b_16  hW hb_129) (cwI 2 hg (gB wd_582) rfl rfl rfl (hg _ wd_97) (hg _ wd_583) (hg _ wd_584) rfl (by decide +kernel) ⟨(Nat.le_trans (Nat.le_of_ble_eq_true rfl) hRf), (Nat.le_trans (Nat.le_of_ble_eq_true rfl) hRl)⟩) ⟨PG.blind, fun U hU hW => ⟨rfl, PG.at hPc hK hDc hN hU hW⟩⟩ rfl rfl hl.1 rfl (lv_room (Nat.le_of_ble_eq_true rfl)) dX11_rule_109 ⟨(Nat.le_trans (Nat.le_of_ble_eq_true rfl) hRc), (Nat.le_trans (Nat.le_of_ble_eq_true rfl) hRs)⟩) hS (fun q _ h => hFc q h) hFc (fun M_163 t H_161 locs ht hvm hw hB hz1 hk1 hS => ?_)
            have hp_164 := hw
            obtain ⟨w1_165, e0_166, g9_167, hP1, hD1⟩ := hB
            rw [ht] at hP1
            obtain ⟨hP, hD⟩ := va_joinP (X := [(xa, .inr (11, [.ref x0, .int (nI x1), .ref x2, .int (nI x3), .ref x4, .ref x5, .ref x6, .int x7, .ref x8, .int x9, .int x10])), (q_159, .inr (6, [.int 0, .int 0, .null]))]) (cx := [(q_159, .inr (6, [.int 0, .int 0, .null]))]) (wr := [(xa, .inr (11, [.ref x0, .int (nI x1), .ref x2, .int (nI x3), .ref x4, .ref x5, .ref x6, .int x7, .ref x8, .int x9, .int x10]))]) (rx := [(q_159, .inr (6, [.int k2, .int w1_165, .ref e0_166])), (e0_166, .inl ((cy 14), 24, .inl (g9_167)))]) (pl := va_pl L M) (pl1 := va_pl L M) hP hD [1] [0] rfl rfl (by decide) (by decide) hk1 hFc hP1 hD1
            have hP : va_P D vwCl ([(xa, .inr (11, [.ref x0, .int (nI x1), .ref x2, .int (nI x3), .ref x4, .ref x5, .ref x6, .int x7, .ref x8, .int x9, .int x10])), (q_159, .inr (6, [.int k2, .int w1_165, .ref e0_166])), (e0_166, .inl ((cy 14), 24, .inl (g9_167)))] ++ va_pl L M) H_161 := hP
            have hD : va_D A ([(xa, .inr (11, [.ref x0, .int (nI x1), .ref x2, .int (nI x3), .ref x4, .ref x5, .ref x6, .int x7, .ref x8, .int x9, .int x10])), (q_159, .inr (6, [.int k2, .int w1_165, .ref e0_166])), (e0_166, .inl ((cy 14), 24, .inl (g9_167)))] ++ va_pl L M) := hD
            refine W.widen (k := 2) (n := 27) (Nat.le_of_ble_eq_true rfl) (Nat.le_of_ble_eq_true rfl) ?_
            have hP : va_P D vwCl (([(xa, .inr (11, [.ref x0, .int (nI x1), .ref x2, .int (nI x3), .ref x4, .ref x5, .ref x6, .int x7, .ref x8, .int x9, .int x10])), (q_159, .inr (6, [.int k2, .int w1_165, .ref e0_166]))] ++ [(e0_166, .inl ((cy 14), 24, .inl (g9_167)))]) ++ va_pl L M) H_161 := hP.part (cx := [(xa, .inr (11, [.ref x0, .int (nI x1), .ref x2, .int (nI x3), .ref x4, .ref x5, .ref x6, .int x7, .ref x8, .int x9, .int x10])), (q_159, .inr (6, [.int k2, .int w1_165, .ref e0_166]))] ++ [(e0_166, .inl ((cy 14), 24, .inl (g9_167)))]) [0, 1, 2] rfl
            have hD : va_D A (([(xa, .inr (11, [.ref x0, .int (nI x1), .ref x2, .int (nI x3), .ref x4, .ref x5, .ref x6, .int x7, .ref x8, .int x9, .int x10])), (q_159, .inr (6, [.int k2, .int w1_165, .ref e0_166]))] ++ [(e0_166, .inl ((cy 14), 24, .inl (g9_167)))]) ++ va_pl L M) := hD.part (cx := [(xa, .inr (11, [.ref x0, .int (nI x1), .ref x2, .int (nI x3), .ref x4, .ref x5, .ref x6, .int x7, .ref x8, .int x9, .int x10])), (q_159, .inr (6, [.int k2, .int w1_165, .ref e0_166]))] ++ [(e0_166, .inl ((cy 14), 24, .inl (g9_167)))]) [0, 1, 2] (by decide) rfl
            obtain ⟨K9, L9, M_168, hx9, i_169, hW, hP, hD, hM_170, hfr9, hq9⟩ := adoptE 54 24 hP hD hW (fun K' L' x i => (⟨_, rfl⟩ : gd_54 cy K' L' 24 _))
            have hM_172 : M_168 b_5 = .inr (2, [.int v11_0, .int v11_1, .int v11_2, .ref v11_3, .int (nI v11_4), .int (nI v11_5), .ref v11_6, .ref v11_7, .ref v11_8, .int (nI v11_9), .ref v11_10, .int (nI v11_11), .ref v11_12, .ref v11_13, .long v11_14, .int v11_15, .ref v11_16, .ref v11_17, .ref v11_18, .ref v11_19]) := (hfr9 _ hb_10.1).trans hM11
            have hM_173 : M_168 b_16 = .inr (6, [.int v130_0, .int v130_1, .ref v130_2]) := (hfr9 _ hb_129.1).trans hM130
            have hF : fr K0 L0 [2, 20] M0 M_168 := hF.adX hX0 hfr9
            have hT2 : fT 2 K0 L0 [11] M0 M_168 := hT2.adX hX0 hfr9
            have hX0 := hX0.tr hx9
            have i_174 := i0.ext hx9
            have i_175 := i2.ext hx9
            have i_176 := i4.ext hx9
            have i_177 := i5.ext hx9
            have i_178 := i6.ext hx9
            have i_179 := i8.ext hx9
            have i_180 := hb_10.ext hx9
            have i_181 := h11_3.ext hx9
            have i_182 := h11_6.ext hx9
            have i_183 := h11_7.ext hx9
            have i_184 := h11_8.ext hx9
            have i_185 := h11_10.ext hx9
            have i_186 := h11_12.ext hx9
            have i_187 := h11_13.ext hx9
            have i_188 := h11_16.ext hx9
            have i_189 := h11_17.ext hx9
            have i_190 := h11_18.ext hx9
            have i_191 := h11_19.ext hx9
            have i_192 := hb_129.ext hx9
            have i_193 := h130_2.ext hx9
            obtain ⟨K, L, hK9, hL9⟩ : ∃ (K : Kp) (L : List Nat), K = K9 ∧ L = L9 := ⟨_, _, rfl, rfl⟩
            subst hK9
            subst hL9
            have hP : va_P D vwCl ([(xa, .inr (11, [.ref x0, .int (nI x1), .ref x2, .int (nI x3), .ref x4, .ref x5, .ref x6, .int x7, .ref x8, .int x9, .int x10])), (q_159, .inr (6, [.int k2, .int w1_165, .ref e0_166]))] ++ va_pl L M_168) H_161 := hP
            have hD : va_D A ([(xa, .inr (11, [.ref x0, .int (nI x1), .ref x2, .int (nI x3), .ref x4, .ref x5, .ref x6, .int x7, .ref x8, .int x9, .int x10])), (q_159, .inr (6, [.int k2, .int w1_165, .ref e0_166]))] ++ va_pl L M_168) := hD
            have hP : va_P D vwCl (([(xa, .inr (11, [.ref x0, .int (nI x1), .ref x2, .int (nI x3), .ref x4, .ref x5, .ref x6, .int x7, .ref x8, .int x9, .int x10]))] ++ [(q_159, .inr (6, [.int k2, .int w1_165, .ref e0_166]))]) ++ va_pl L M_168) H_161 := hP.part (cx := [(xa, .inr (11, [.ref x0, .int (nI x1), .ref x2, .int (nI x3), .ref x4, .ref x5, .ref x6, .int x7, .ref x8, .int x9, .int x10]))] ++ [(q_159, .inr (6, [.int k2, .int w1_165, .ref e0_166]))]) [0, 1] rfl
            have hD : va_D A (([(xa, .inr (11, [.ref x0, .int (nI x1), .ref x2, .int (nI x3), .ref x4, .ref x5, .ref x6, .int x7, .ref x8, .int x9, .int x10]))] ++ [(q_159, .inr (6, [.int k2, .int w1_165, .ref e0_166]))]) ++ va_pl L M_168) := hD.part (cx := [(xa, .inr (11, [.ref x0, .int (nI x1), .ref x2, .int (nI x3), .ref x4, .ref x5, .ref x6, .int x7, .ref x8, .int x9, .int x10]))] ++ [(q_159, .inr (6, [.int k2, .int w1_165, .ref e0_166]))]) [0, 1] (by decide) rfl
            obtain ⟨K9, L9, M_194, hx9, i_195, hW, hP, hD, hM_196, hfr9, hq9⟩ := adoptE 6 0 hP hD hW (fun K' L' x i => (⟨k2, w1_165, e0_166, rfl, i_169.ext x⟩ : gd_6 K' L' _))
            have hM_197 : M_194 b_5 = .inr (2, [.int v11_0, .int v11_1, .int v11_2, .ref v11_3, .int (nI v11_4), .int (nI v11_5), .ref v11_6, .ref v11_7, .ref v11_8, .int (nI v11_9), .ref v11_10, .int (nI v11_11), .ref v11_12, .ref v11_13, .long v11_14, .int v11_15, .ref v11_16, .ref v11_17, .ref v11_18, .ref v11_19]) := (hfr9 _ i_180.1).trans hM_172
            have hM_198 : M_194 b_16 = .inr (6, [.int v130_0, .int v130_1, .ref v130_2]) := (hfr9 _ i_192.1).trans hM_173
            have hF : fr K0 L0 [2, 20] M0 M_194 := hF.adX hX0 hfr9
            have hT2 : fT 2 K0 L0 [11] M0 M_194 := hT2.adX hX0 hfr9
            have hX0 := hX0.tr hx9
            have i_199 := i_174.ext hx9
            have i_200 := i_175.ext hx9
            have i_201 := i_176.ext hx9
            have i_202 := i_177.ext hx9
            have i_203 := i_178.ext hx9
            have i_204 := i_179.ext hx9
            have i_205 := i_180.ext hx9
            have i_206 := i_181.ext hx9
            have i_207 := i_182.ext hx9
            have i_208 := i_183.ext hx9
            have i_209 := i_184.ext hx9
            have i_210 := i_185.ext hx9
            have i_211 := i_186.ext hx9
            have i_212 := i_187.ext hx9
            have i_213 := i_188.ext hx9
            have i_214 := i_189.ext hx9
            have i_215 := i_190.ext hx9
            have i_216 := i_191.ext hx9
            have i_217 := i_192.ext hx9
            have i_218 := i_193.ext hx9
            obtain ⟨K, L, hK9, hL9⟩ : ∃ (K : Kp) (L : List Nat), K = K9 ∧ L = L9 := ⟨_, _, rfl, rfl⟩
            subst hK9
            subst hL9
            have hP : va_P D vwCl ([(xa, .inr (11, [.ref x0, .int (nI x1), .ref x2, .int (nI x3), .ref x4, .ref x5, .ref x6, .int x7, .ref x8, .int x9, .int x10]))] ++ va_pl L M_194) H_161 := hP
            have hD : va_D A ([(xa, .inr (11, [.ref x0, .int (nI x1), .ref x2, .int (nI x3), .ref x4, .ref x5, .ref x6, .int x7, .ref x8, .int x9, .int x10]))] ++ va_pl L M_194) := hD
            obtain ⟨f219, hM219, hf219⟩ := hW.open_20 i_210
            obtain ⟨v221_0, v221_1, v221_2, hM221, h221_2⟩ := hW.open_6 i_195
            refine pg_astq (r := (RX6, TX6, 3)) hx hb hK hP hD hS i_210.1 6 6 hM219 rfl i_195.1 hM221 rfl (inbN v11_11 16 (by omega) (by omega)) dX11_rule_112 (fun H_220 locs hP hD hS => ?_)
            obtain ⟨M_222, eM_222⟩ : ∃ M1 : Hp, M1 = va_up M_194 v11_10 (.inl (cy 20, 16, .inr (.inr (.inr (.inr (va_up f219 ((nI v11_11) : Int32).toNatClampNeg (some q_159))))))) := ⟨_, rfl⟩
            have hP : va_P D vwCl ([(xa, .inr (11, [.ref x0, .int (nI x1), .ref x2, .int (nI x3), .ref x4, .ref x5, .ref x6, .int x7, .ref x8, .int x9, .int x10]))] ++ va_pl L M_222) H_220 := by rw [eM_222]; exact hP
            have hD : va_D A ([(xa, .inr (11, [.ref x0, .int (nI x1), .ref x2, .int (nI x3), .ref x4, .ref x5, .ref x6, .int x7, .ref x8, .int x9, .int x10]))] ++ va_pl L M_222) := by rw [eM_222]; exact hD
            have hW : WOK cy K L M_222 := by rw [eM_222]; exact hW.up_20 i_210 ⟨_, rfl, (upN hf219 i_195)⟩
            have hF : fr K0 L0 [2, 20] M0 M_222 := by rw [eM_222]; exact hF.upX hX0 i_210 (by decide)
            have hT2 : fT 2 K0 L0 [11] M0 M_222 := by rw [eM_222]; exact hT2.neX hX0 i_210 (by decide)
            have hM_223 : M_222 v11_10 = .inl (cy 20, 16, .inr (.inr (.inr (.inr (va_up f219 ((nI v11_11) : Int32).toNatClampNeg (some q_159)))))) := by rw [eM_222]; exact va_up_self _ _ _
            have hM_224 : M_222 b_5 = .inr (2, [.int v11_0, .int v11_1, .int v11_2, .ref v11_3, .int (nI v11_4), .int (nI v11_5), .ref v11_6, .ref v11_7, .ref v11_8, .int (nI v11_9), .ref v11_10, .int (nI v11_11), .ref v11_12, .ref v11_13, .long v11_14, .int v11_15, .ref v11_16, .ref v11_17, .ref v11_18, .ref v11_19]) := by rw [eM_222, va_up_ne _ _ (i_205.neT i_210 (by decide))]; exact hM_197
            have hM_225 : M_222 b_16 = .inr (6, [.int v130_0, .int v130_1, .ref v130_2]) := by rw [eM_222, va_up_ne _ _ (i_217.neT i_210 (by decide))]; exact hM_198
            have hM_226 : M_222 q_159 = .inr (6, [.int v221_0, .int v221_1, .ref v221_2]) := by rw [eM_222, va_up_ne _ _ (i_195.neT i_210 (by decide))]; exact hM221
            have hf_228 : ∀ j, j < 16 → iskN K L ((va_up f219 ((nI v11_11) : Int32).toNatClampNeg (some q_159)) j) 6 0 := (upN hf219 i_195)
            obtain ⟨f_227, ef_227⟩ : ∃ f : Nat → Option Nat, f = va_up f219 ((nI v11_11) : Int32).toNatClampNeg (some q_159) := ⟨_, rfl⟩
            rw [← ef_227] at hM_223 hf_228
            have hk_229 : f_227 ((nI v11_11) : Int32).toNatClampNeg = some q_159 := by rw [ef_227]; exact va_up_self _ _ _
            clear ef_227
            refine lv_aload_n hx hb dX11_rule_113 rfl (lv_at hl 2 rfl) ?_
            refine lv_dup hx hb dX11_rule_114 rfl ?_
            refine pg_get (D := D) (ci := 2) (v := .int (nI v11_11)) (C := RX2) (T := TX2) (N := 20) hx hb hg inG2 hown hK hP i_205.1 hM_224 rfl 11 (by decide) (hg _ wd_442) (fun _ h9 => h9) rfl dX11_rule_115 ?_
            refine lv_iconst (v := 1) hx hb dX11_rule_118 (by decide) ?_
            refine lv_iadd hx hb dX11_rule_119 ?_
            refine lv_topi (fun f_230 ef_230 => ?_)
            obtain rfl : f_230 = (nI (v11_11 + 1)) := ef_230.trans (nI_add v11_11 1)
            refine pg_put (D := D) (ci := 2) (v := .int (nI (v11_11 + 1))) (ty := .int) (C := RX2) (T := TX2) (N := 20) hx hb hg inG2 tyX2 tyX2_ok nmX2 hown hK hP hD hS i_205.1 hM_224 rfl 11 (by decide) (hg _ wd_442) (fun _ h9 => h9) rfl (by decide +kernel) rfl rfl (Nat.le_of_ble_eq_true rfl) dX11_rule_120 (fun H_231 locs hP hD hS => ?_)
            obtain ⟨M_232, eM_232⟩ : ∃ M1 : Hp, M1 = va_up M_222 b_5 (.inr (2, [.int v11_0, .int v11_1, .int v11_2, .ref v11_3, .int (nI v11_4), .int (nI v11_5), .ref v11_6, .ref v11_7, .ref v11_8, .int (nI v11_9), .ref v11_10, .int (nI (v11_11 + 1)), .ref v11_12, .ref v11_13, .long v11_14, .int v11_15, .ref v11_16, .ref v11_17, .ref v11_18, .ref v11_19])) := ⟨_, rfl⟩
            have hP : va_P D vwCl ([(xa, .inr (11, [.ref x0, .int (nI x1), .ref x2, .int (nI x3), .ref x4, .ref x5, .ref x6, .int x7, .ref x8, .int x9, .int x10]))] ++ va_pl L M_232) H_231 := by rw [eM_232]; exact hP
            have hD : va_D A ([(xa, .inr (11, [.ref x0, .int (nI x1), .ref x2, .int (nI x3), .ref x4, .ref x5, .ref x6, .int x7, .ref x8, .int x9, .int x10]))] ++ va_pl L M_232) := by rw [eM_232]; exact hD
            have hW : WOK cy K L M_232 := by rw [eM_232]; exact hW.up_2 i_205 ⟨v11_0, v11_1, v11_2, v11_3, v11_4, v11_5, v11_6, v11_7, v11_8, v11_9, v11_10, (v11_11 + 1), v11_12, v11_13, v11_14, v11_15, v11_16, v11_17, v11_18, v11_19, rfl, i_206, h11_4, h11_5, i_207, i_208, i_209, h11_9, i_210, (by omega), i_211, i_212, i_213, i_214, i_215, i_216⟩
            have hF : fr K0 L0 [2, 20] M0 M_232 := by rw [eM_232]; exact hF.upX hX0 i_205 (by decide)
            have hT2 : fT 2 K0 L0 [11] M0 M_232 := by rw [eM_232]; exact hT2.up (i := 11) hM_224 rfl (by decide)
            have hM_233 : M_232 b_5 = .inr (2, [.int v11_0, .int v11_1, .int v11_2, .ref v11_3, .int (nI v11_4), .int (nI v11_5), .ref v11_6, .ref v11_7, .ref v11_8, .int (nI v11_9), .ref v11_10, .int (nI (v11_11 + 1)), .ref v11_12, .ref v11_13, .long v11_14, .int v11_15, .ref v11_16, .ref v11_17, .ref v11_18, .ref v11_19]) := by rw [eM_232]; exact va_up_self _ _ _
            have hM_234 : M_232 v11_10 = .inl (cy 20, 16, .inr (.inr (.inr (.inr (f_227))))) := by rw [eM_232, va_up_ne _ _ (i_210.neT i_205 (by decide))]; exact hM_223
            have hM_235 : M_232 b_16 = .inr (6, [.int v130_0, .int v130_1, .ref v130_2]) := by rw [eM_232, va_up_ne _ _ (i_217.neT i_205 (by decide))]; exact hM_225
            have hM_236 : M_232 q_159 = .inr (6, [.int v221_0, .int v221_1, .ref v221_2]) := by rw [eM_232, va_up_ne _ _ (i_195.neT i_205 (by decide))]; exact hM_226
            have hb_237 : (v11_11 + 1) ≤ 16 := by omega
            refine lv_aload_n hx hb dX11_rule_123 rfl (lv_at hl 3 rfl) ?_
            refine lv_aload_n hx hb dX11_rule_124 rfl (lv_at hl 2 rfl) ?_
            refine pg_get (D := D) (ci := 2) (v := .int (nI (v11_11 + 1))) (C := RX2) (T := TX2) (N := 20) hx hb hg inG2 hown hK hP i_205.1 hM_233 rfl 11 (by decide) (hg _ wd_442) (fun _ h9 => h9) rfl dX11_rule_125 ?_
            have hPc := hP.sub (ws' := [(xa, .inr (11, [.ref x0, .int (nI x1), .ref x2, .int (nI x3), .ref x4, .ref x5, .ref x6, .int x7, .ref x8, .int x9, .int x10]))]) [0] rfl
            have hDc := hD.sub (ws' := [(xa, .inr (11, [.ref x0, .int (nI x1), .ref x2, .int (nI x3), .ref x4, .ref x5, .ref x6, .int x7, .ref x8, .int x9, .int x10]))]) [0] (by decide) rfl
            have hKc := hK.sub (tys' := []) [] rfl
            have hFc := va_free (wc := [(xa, .inr (11, [.ref x0, .int (nI x1), .ref x2, .int (nI x3), .ref x4, .ref x5, .ref x6, .int x7, .ref x8, .int x9, .int x10]))]) hD hS hA [0] rfl
            refine va_calli (va_runV (As := [.int (nI (v11_11 + 1))]) (rest := []) ⟨hx, hb, hml, hown, hg⟩ (k_accept l D H_231.size xa x0 (nI x1) x2 (nI x3) x4 x5 x6 x7 x8 x9 x10 (nI (v11_11 + 1))) (cwV 1 hg (gV wd_356 wd_357 wd_358 wd_3 wd_359) rfl rfl rfl (by decide +kernel) ⟨(Nat.le_trans (Nat.le_of_ble_eq_true rfl) hRf), (Nat.le_trans (Nat.le_of_ble_eq_true rfl) hRl)⟩) ⟨Pr.blind, va_recv hK hP (ci := 11) (q0 := 0) rfl rfl, fun U hU hW => ⟨rfl, Pr.at hPc hKc hDc hN hU hW⟩⟩ rfl rfl hl.1 rfl (lv_room (Nat.le_of_ble_eq_true rfl)) dX11_rule_128 ⟨(Nat.le_trans (Nat.le_of_ble_eq_true rfl) hRc), (Nat.le_trans (Nat.le_of_ble_eq_true rfl) hRs)⟩) hS (fun q _ h => hFc q h) hFc (fun r_239 M_240 t H_238 locs ht hvm hw hB hz1 hk1 hS => ?_)
            have hp_241 := hw
            obtain ⟨hP1, hK1, hD1⟩ := hB
            rw [ht] at hP1
            obtain ⟨hP, hD⟩ := va_joinQ (X := [(xa, .inr (11, [.ref x0, .int (nI x1), .ref x2, .int (nI x3), .ref x4, .ref x5, .ref x6, .int x7, .ref x8, .int x9, .int x10]))]) (cx := [(xa, .inr (11, [.ref x0, .int (nI x1), .ref x2, .int (nI x3), .ref x4, .ref x5, .ref x6, .int x7, .ref x8, .int x9, .int x10]))]) (wr := []) (w1 := [(xa, .inr (11, [.ref x0, .int (nI x1), .ref x2, .int (nI x3), .ref x4, .ref x5, .ref x6, .int x7, .ref x8, .int 0, .int (-1)]))]) (pl := va_pl L M_232) hP hD [0] [] rfl rfl (by decide) (by decide) hk1 hFc hP1 hD1
            have hP : va_P D vwCl ([(xa, .inr (11, [.ref x0, .int (nI x1), .ref x2, .int (nI x3), .ref x4, .ref x5, .ref x6, .int x7, .ref x8, .int 0, .int (-1)]))] ++ va_pl L M_232) H_238 := hP
            have hD : va_D A ([(xa, .inr (11, [.ref x0, .int (nI x1), .ref x2, .int (nI x3), .ref x4, .ref x5, .ref x6, .int x7, .ref x8, .int 0, .int (-1)]))] ++ va_pl L M_232) := hD
            have hq := Eq.symm hp_241
            subst hq
            rw [hQ]
            exact W.iret (v := (nI (v11_11 + 1))) hx hb hr (fun t ht hW9 => ⟨⟨(nI (v11_11 + 1)), (K, L, M_232), rfl, ⟨hX0, hW, hF, hT2, trivial⟩, ⟨0, (-1), by rw [ht]; exact hP, hD⟩⟩, hS.F ht⟩) hS.2.2 dX11_rule_131
          · have hz := rfl (a := 0)
            have n_242 : ¬ (v11_11 < 16) := fun q => c_157 ((iLT (a := v11_11) (b := 16) (by omega) (by omega)).mpr q)
            refine lv_aload_n hx hb dX11_rule_87 rfl (lv_at hl 3 rfl) ?_
            refine lv_bipush (v := 9) hx hb dX11_rule_88 (by decide) ?_
            have hPc := hP.sub (ws' := [(xa, .inr (11, [.ref x0, .int (nI x1), .ref x2, .int (nI x3), .ref x4, .ref x5, .ref x6, .int x7, .ref x8, .int x9, .int x10]))]) [0] rfl
            have hDc := hD.sub (ws' := [(xa, .inr (11, [.ref x0, .int (nI x1), .ref x2, .int (nI x3), .ref x4, .ref x5, .ref x6, .int x7, .ref x8, .int x9, .int x10]))]) [0] (by decide) rfl
            have hKc := hK.sub (tys' := []) [] rfl
            have hFc := va_free (wc := [(xa, .inr (11, [.ref x0, .int (nI x1), .ref x2, .int (nI x3), .ref x4, .ref x5, .ref x6, .int x7, .ref x8, .int x9, .int x10]))]) hD hS hA [0] rfl
            refine va_calli (va_runV (As := [.int 9]) (rest := []) ⟨hx, hb, hml, hown, hg⟩ (k_refuse l D H_149.size xa x0 (nI x1) x2 (nI x3) x4 x5 x6 x7 x8 x9 x10 9) (cwV 1 hg (gV wd_344 wd_345 wd_346 wd_3 wd_347) rfl rfl rfl (by decide +kernel) ⟨(Nat.le_trans (Nat.le_of_ble_eq_true rfl) hRf), (Nat.le_trans (Nat.le_of_ble_eq_true rfl) hRl)⟩) ⟨Pr.blind, va_recv hK hP (ci := 11) (q0 := 0) rfl rfl, fun U hU hW => ⟨rfl, Pr.at hPc hKc hDc hN hU hW⟩⟩ rfl rfl hl.1 rfl (lv_room (Nat.le_of_ble_eq_true rfl)) dX11_rule_90 ⟨(Nat.le_trans (Nat.le_of_ble_eq_true rfl) hRc), (Nat.le_trans (Nat.le_of_ble_eq_true rfl) hRs)⟩) hS (fun q _ h => hFc q h) hFc (fun r_244 M_245 t H_243 locs ht hvm hw hB hz1 hk1 hS => ?_)
            have hp_246 := hw
            obtain ⟨hP1, hK1, hD1⟩ := hB
            rw [ht] at hP1
            obtain ⟨hP, hD⟩ := va_joinQ (X := [(xa, .inr (11, [.ref x0, .int (nI x1), .ref x2, .int (nI x3), .ref x4, .ref x5, .ref x6, .int x7, .ref x8, .int x9, .int x10]))]) (cx := [(xa, .inr (11, [.ref x0, .int (nI x1), .ref x2, .int (nI x3), .ref x4, .ref x5, .ref x6, .int x7, .ref x8, .int x9, .int x10]))]) (wr := []) (w1 := [(xa, .inr (11, [.ref x0, .int (nI x1), .ref x2, .int (nI x3), .ref x4, .ref x5, .ref x6, .int x7, .ref x8, .int 9, .int (-1)]))]) (pl := va_pl L M) hP hD [0] [] rfl rfl (by decide) (by decide) hk1 hFc hP1 hD1
            have hP : va_P D vwCl ([(xa, .inr (11, [.ref x0, .int (nI x1), .ref x2, .int (nI x3), .ref x4, .ref x5, .ref x6, .int x7, .ref x8, .int 9, .int (-1)]))] ++ va_pl L M) H_243 := hP
            have hD : va_D A ([(xa, .inr (11, [.ref x0, .int (nI x1), .ref x2, .int (nI x3), .ref x4, .ref x5, .ref x6, .int x7, .ref x8, .int 9, .int (-1)]))] ++ va_pl L M) := hD
            have hq := Eq.symm hp_246
            subst hq
            refine W.widen (k := 2) (n := 27) (Nat.le_of_ble_eq_true rfl) (Nat.le_of_ble_eq_true rfl) ?_
            rw [hQ]
            exact W.iret (v := (-1)) hx hb hr (fun t ht hW9 => ⟨⟨(-1), (K, L, M), rfl, ⟨hX0, hW, hF, hT2, trivial⟩, ⟨9, (-1), by rw [ht]; exact hP, hD⟩⟩, hS.F ht⟩) hS.2.2 dX11_rule_93
        · have hz := rfl (a := 0)
          refine lv_if_eq (tgt := 72) hx hb dX11_rule_64 (by decide) (fun _ => ?_) (fun c_247 => absurd c_247 (by decide))
          refine lv_aload_n hx hb dX11_rule_72 rfl (lv_at hl 3 rfl) ?_
          refine lv_iconst (v := 3) hx hb dX11_rule_73 (by decide) ?_
          have hPc := hP.sub (ws' := [(xa, .inr (11, [.ref x0, .int (nI x1), .ref x2, .int (nI x3), .ref x4, .ref x5, .ref x6, .int x7, .ref x8, .int x9, .int x10]))]) [0] rfl
          have hDc := hD.sub (ws' := [(xa, .inr (11, [.ref x0, .int (nI x1), .ref x2, .int (nI x3), .ref x4, .ref x5, .ref x6, .int x7, .ref x8, .int x9, .int x10]))]) [0] (by decide) rfl
          have hKc := hK.sub (tys' := []) [] rfl
          have hFc := va_free (wc := [(xa, .inr (11, [.ref x0, .int (nI x1), .ref x2, .int (nI x3), .ref x4, .ref x5, .ref x6, .int x7, .ref x8, .int x9, .int x10]))]) hD hS hA [0] rfl
          refine va_calli (va_runV (As := [.int 3]) (rest := []) ⟨hx, hb, hml, hown, hg⟩ (k_refuse l D H_149.size xa x0 (nI x1) x2 (nI x3) x4 x5 x6 x7 x8 x9 x10 3) (cwV 1 hg (gV wd_344 wd_345 wd_346 wd_3 wd_347) rfl rfl rfl (by decide +kernel) ⟨(Nat.le_trans (Nat.le_of_ble_eq_true rfl) hRf), (Nat.le_trans (Nat.le_of_ble_eq_true rfl) hRl)⟩) ⟨Pr.blind, va_recv hK hP (ci := 11) (q0 := 0) rfl rfl, fun U hU hW => ⟨rfl, Pr.at hPc hKc hDc hN hU hW⟩⟩ rfl rfl hl.1 rfl (lv_room (Nat.le_of_ble_eq_true rfl)) dX11_rule_74 ⟨(Nat.le_trans (Nat.le_of_ble_eq_true rfl) hRc), (Nat.le_trans (Nat.le_of_ble_eq_true rfl) hRs)⟩) hS (fun q _ h => hFc q h) hFc (fun r_249 M_250 t H_248 locs ht hvm hw hB hz1 hk1 hS => ?_)
          have hp_251 := hw
          obtain ⟨hP1, hK1, hD1⟩ := hB
          rw [ht] at hP1
          obtain ⟨hP, hD⟩ := va_joinQ (X := [(xa, .inr (11, [.ref x0, .int (nI x1), .ref x2, .int (nI x3), .ref x4, .ref x5, .ref x6, .int x7, .ref x8, .int x9, .int x10]))]) (cx := [(xa, .inr (11, [.ref x0, .int (nI x1), .ref x2, .int (nI x3), .ref x4, .ref x5, .ref x6, .int x7, .ref x8, .int x9, .int x10]))]) (wr := []) (w1 := [(xa, .inr (11, [.ref x0, .int (nI x1), .ref x2, .int (nI x3), .ref x4, .ref x5, .ref x6, .int x7, .ref x8, .int 3, .int (-1)]))]) (pl := va_pl L M) hP hD [0] [] rfl rfl (by decide) (by decide) hk1 hFc hP1 hD1
          have hP : va_P D vwCl ([(xa, .inr (11, [.ref x0, .int (nI x1), .ref x2, .int (nI x3), .ref x4, .ref x5, .ref x6, .int x7, .ref x8, .int 3, .int (-1)]))] ++ va_pl L M) H_248 := hP
          have hD : va_D A ([(xa, .inr (11, [.ref x0, .int (nI x1), .ref x2, .int (nI x3), .ref x4, .ref x5, .ref x6, .int x7, .ref x8, .int 3, .int (-1)]))] ++ va_pl L M) := hD
          have hq := Eq.symm hp_251
          subst hq
          refine W.widen (k := 2) (n := 27) (Nat.le_of_ble_eq_true rfl) (Nat.le_of_ble_eq_true rfl) ?_
          rw [hQ]
          exact W.iret (v := (-1)) hx hb hr (fun t ht hW9 => ⟨⟨(-1), (K, L, M), rfl, ⟨hX0, hW, hF, hT2, trivial⟩, ⟨3, (-1), by rw [ht]; exact hP, hD⟩⟩, hS.F ht⟩) hS.2.2 dX11_rule_77
set_option maxHeartbeats 4000000 in
set_option maxRecDepth 100000 in
theorem s_X11_partner (l : Launch) (D : va_G) (cy : Nat → ClassId) (K0 : Kp) (L0 : List Nat) (M0 : Hp) (sz : Nat) (xa : Nat) (x0 : Nat) (x1 : Nat) (x2 : Nat) (x3 : Nat) (x4 : Nat) (x5 : Nat) (x6 : Nat) (x7 : Int32) (x8 : Nat) (x9 : Int32) (x10 : Int32) (k1 : Int32) (k2 : Int32) (hW : WOK cy K0 L0 M0) (i0 : isk K0 L0 x0 17 8) (b1 : x1 ≤ 8) (i2 : isk K0 L0 x2 19 40) (b3 : x3 ≤ 40) (i4 : isk K0 L0 x4 7 0) (i5 : isk K0 L0 x5 5 0) (i6 : isk K0 L0 x6 60 24) (i8 : isk K0 L0 x8 73 25) : Met l yX11_partner (wsM yX11_partner cX11_partner 4 (some .int)) ({ frames := 2, cells := 1, slots := 4, locals := 43 }) (va_Pc [.ref xa, .int k1, .int k2] (PG D cy [(xa, .inr (11, [.ref x0, .int (nI x1), .ref x2, .int (nI x3), .ref x4, .ref x5, .ref x6, .int x7, .ref x8, .int x9, .int x10]))] L0 M0 sz)) (va_Qi (fun (r : Int32) (u : Kp × List Nat × Hp) => ext K0 L0 u.1 u.2.1 ∧ WOK cy u.1 u.2.1 u.2.2 ∧ fr K0 L0 [19] M0 u.2.2 ∧ (True)) (fun u t => ∃ (w3 : Nat) (w9 : Int32) (w10 : Int32), w3 ≤ 40 ∧ PQ D [(xa, .inr (11, [.ref x0, .int (nI x1), .ref x2, .int (nI w3), .ref x4, .ref x5, .ref x6, .int x7, .ref x8, .int w9, .int w10]))] u.2.1 u.2.2 (va_A ([(xa, .inr (11, [.ref x0, .int (nI x1), .ref x2, .int (nI x3), .ref x4, .ref x5, .ref x6, .int x7, .ref x8, .int x9, .int x10]))] ++ va_pl L0 M0) sz) t) (va_A ([(xa, .inr (11, [.ref x0, .int (nI x1), .ref x2, .int (nI x3), .ref x4, .ref x5, .ref x6, .int x7, .ref x8, .int x9, .int x10]))] ++ va_pl L0 M0) sz)) 1 4 (va_A ([(xa, .inr (11, [.ref x0, .int (nI x1), .ref x2, .int (nI x3), .ref x4, .ref x5, .ref x6, .int x7, .ref x8, .int x9, .int x10]))] ++ va_pl L0 M0) sz) := by
  refine Met.ofW (cc := cX11_partner) (maxL := 4) (ret := (some .int)) (by decide) rfl ?_
  intro p e s m args below meth c s₁ B hml hv
  obtain ⟨rfl, hsz, hP, hK, hD0, hN⟩ := hv
  have hx := B.exec
  have hb := B.bytes
  have hr := B.returns
  have hts := atoms_spec (ws := (wsM yX11_partner cX11_partner 4 (some .int))) B.pre
  have hg : ∀ w ∈ lw_good, w.before _ s = true := fun w h => hts w (List.mem_cons_of_mem _ h)
  have hown : s.vm.findClass RX11 = some m.cls := findClass_of_methodNamed B.named
  have hlocks := B.notSynchronized
  subst hsz
  have hD := hD0.self (sz := s.heap.size)
  generalize hAe : va_A ([(xa, .inr (11, [.ref x0, .int (nI x1), .ref x2, .int (nI x3), .ref x4, .ref x5, .ref x6, .int x7, .ref x8, .int x9, .int x10]))] ++ va_pl L0 M0) s.heap.size = A at hD ⊢
  have hA : ∀ q : Nat, s.heap.size ≤ q → A q := fun q h => by rw [← hAe]; exact Or.inr h
  have hS : va_S A s.heap s.heap [] := va_S.rf
  have hl := lv_entry ([.ref xa, .int k1, .int k2]) (n := 4) (Nat.le_of_ble_eq_true rfl)
  rw [lg_entry_eq]
  generalize (lg_sl ([.ref xa, .int k1, .int k2]) ++ List.replicate (4 - (lg_sl ([.ref xa, .int k1, .int k2])).length) Slot.unset).toArray = ls at hl ⊢
  refine W.nameQ (fun Q hQ => ?_)
  refine W.nameR (fun R hR => ?_)
  have hRf : 2 ≤ R.frames := by rw [hR]; exact Nat.le_of_ble_eq_true rfl
  have hRl : 43 ≤ R.locals := by rw [hR]; exact Nat.le_of_ble_eq_true rfl
  have hRc : 1 ≤ R.cells := by rw [hR]; exact Nat.le_of_ble_eq_true rfl
  have hRs : 4 ≤ R.slots := by rw [hR]; exact Nat.le_of_ble_eq_true rfl
  obtain ⟨K, L, M, hX0, hF, hW, hP, hD, i0, i2, i4, i5, i6, i8⟩ : ∃ (K : Kp) (L : List Nat) (M : Hp), ext K0 L0 K L ∧ fr K0 L0 [19] M0 M ∧ WOK cy K L M ∧ va_P D vwCl ([(xa, .inr (11, [.ref x0, .int (nI x1), .ref x2, .int (nI x3), .ref x4, .ref x5, .ref x6, .int x7, .ref x8, .int x9, .int x10]))] ++ va_pl L M) s.heap ∧ va_D A ([(xa, .inr (11, [.ref x0, .int (nI x1), .ref x2, .int (nI x3), .ref x4, .ref x5, .ref x6, .int x7, .ref x8, .int x9, .int x10]))] ++ va_pl L M) ∧ isk K L x0 17 8 ∧ isk K L x2 19 40 ∧ isk K L x4 7 0 ∧ isk K L x5 5 0 ∧ isk K L x6 60 24 ∧ isk K L x8 73 25 := ⟨K0, L0, M0, ext.rf, fr.rf, hW, hP, hD, i0, i2, i4, i5, i6, i8⟩
  have hl : lv_has ls 4 [(0, .ref xa), (1, .int k1), (2, .int k2)] := hl
  refine lv_iload_n hx hb dX11_partner_0 rfl (lv_at hl 1 rfl) ?_
  refine lv_if_lt (tgt := 10) hx hb dX11_partner_1 (by decide) (fun c_1 => ?_) (fun c_1 => ?_)
  · have hz := rfl (a := 0)
    refine lv_aload_n hx hb dX11_partner_10 rfl (lv_at hl 0 rfl) ?_
    refine lv_iconst (v := 2) hx hb dX11_partner_11 (by decide) ?_
    have hPc := hP.sub (ws' := [(xa, .inr (11, [.ref x0, .int (nI x1), .ref x2, .int (nI x3), .ref x4, .ref x5, .ref x6, .int x7, .ref x8, .int x9, .int x10]))]) [0] rfl
    have hDc := hD.sub (ws' := [(xa, .inr (11, [.ref x0, .int (nI x1), .ref x2, .int (nI x3), .ref x4, .ref x5, .ref x6, .int x7, .ref x8, .int x9, .int x10]))]) [0] (by decide) rfl
    have hKc := hK.sub (tys' := []) [] rfl
    have hFc := va_free (wc := [(xa, .inr (11, [.ref x0, .int (nI x1), .ref x2, .int (nI x3), .ref x4, .ref x5, .ref x6, .int x7, .ref x8, .int x9, .int x10]))]) hD hS hA [0] rfl
    refine va_calli (va_runV (As := [.int 2]) (rest := []) ⟨hx, hb, hml, hown, hg⟩ (k_refuse l D s.heap.size xa x0 (nI x1) x2 (nI x3) x4 x5 x6 x7 x8 x9 x10 2) (cwV 1 hg (gV wd_344 wd_345 wd_346 wd_3 wd_347) rfl rfl rfl (by decide +kernel) ⟨(Nat.le_trans (Nat.le_of_ble_eq_true rfl) hRf), (Nat.le_trans (Nat.le_of_ble_eq_true rfl) hRl)⟩) ⟨Pr.blind, va_recv hK hP (ci := 11) (q0 := 0) rfl rfl, fun U hU hW => ⟨rfl, Pr.at hPc hKc hDc hN hU hW⟩⟩ rfl rfl hl.1 rfl (lv_room (Nat.le_of_ble_eq_true rfl)) dX11_partner_12 ⟨(Nat.le_trans (Nat.le_of_ble_eq_true rfl) hRc), (Nat.le_trans (Nat.le_of_ble_eq_true rfl) hRs)⟩) hS (fun q _ h => hFc q h) hFc (fun r_3 M_4 t H_2 locs ht hvm hw hB hz1 hk1 hS => ?_)
    have hp_5 := hw
    obtain ⟨hP1, hK1, hD1⟩ := hB
    rw [ht] at hP1
    obtain ⟨hP, hD⟩ := va_joinQ (X := [(xa, .inr (11, [.ref x0, .int (nI x1), .ref x2, .int (nI x3), .ref x4, .ref x5, .ref x6, .int x7, .ref x8, .int x9, .int x10]))]) (cx := [(xa, .inr (11, [.ref x0, .int (nI x1), .ref x2, .int (nI x3), .ref x4, .ref x5, .ref x6, .int x7, .ref x8, .int x9, .int x10]))]) (wr := []) (w1 := [(xa, .inr (11, [.ref x0, .int (nI x1), .ref x2, .int (nI x3), .ref x4, .ref x5, .ref x6, .int x7, .ref x8, .int 2, .int (-1)]))]) (pl := va_pl L M) hP hD [0] [] rfl rfl (by decide) (by decide) hk1 hFc hP1 hD1
    have hP : va_P D vwCl ([(xa, .inr (11, [.ref x0, .int (nI x1), .ref x2, .int (nI x3), .ref x4, .ref x5, .ref x6, .int x7, .ref x8, .int 2, .int (-1)]))] ++ va_pl L M) H_2 := hP
    have hD : va_D A ([(xa, .inr (11, [.ref x0, .int (nI x1), .ref x2, .int (nI x3), .ref x4, .ref x5, .ref x6, .int x7, .ref x8, .int 2, .int (-1)]))] ++ va_pl L M) := hD
    have hq := Eq.symm hp_5
    subst hq
    refine W.widen (k := 1) (n := 4) (Nat.le_of_ble_eq_true rfl) (Nat.le_of_ble_eq_true rfl) ?_
    rw [hQ]
    exact W.iret (v := (-1)) hx hb hr (fun t ht hW9 => ⟨⟨(-1), (K, L, M), rfl, ⟨hX0, hW, hF, trivial⟩, ⟨x3, 2, (-1), (by omega), by rw [ht]; exact hP, hD⟩⟩, hS.F ht⟩) hS.2.2 dX11_partner_15
  · have hz := rfl (a := 0)
    refine lv_iload_n hx hb dX11_partner_4 rfl (lv_at hl 1 rfl) ?_
    refine lv_bipush (v := 6) hx hb dX11_partner_5 (by decide) ?_
    refine lv_icmp_lt (tgt := 16) hx hb dX11_partner_7 (by decide) (fun c_6 => ?_) (fun c_6 => ?_)
    · have hz := rfl (a := 0)
      refine lv_iload_n hx hb dX11_partner_16 rfl (lv_at hl 1 rfl) ?_
      have hPc : va_P D vwCl ([] ++ va_pl L M) s.heap := hP.part (cx := []) [] rfl
      have hDc : va_D A ([] ++ va_pl L M) := hD.part (cx := []) [] (by decide) rfl
      have hFc : ∀ q, va_A ([] ++ va_pl L M) s.heap.size q → A q := pg_free hDc hS hA
      refine va_calli (va_runS (As := [.int k1]) (rest := []) ⟨hx, hb, hml, hown, hg⟩ (s_X11_isLimitedKind l D cy K L M s.heap.size k1  hW ) (va_cwS 1 hg (gS wd_586 wd_4 wd_3 wd_2) rfl rfl rfl (by decide +kernel) ⟨(Nat.le_trans (Nat.le_of_ble_eq_true rfl) hRf), (Nat.le_trans (Nat.le_of_ble_eq_true rfl) hRl)⟩) ⟨PG.blind, fun U hU hW => ⟨rfl, PG.at hPc hK hDc hN hU hW⟩⟩ rfl rfl hl.1 rfl (lv_room (Nat.le_of_ble_eq_true rfl)) dX11_partner_17 ⟨(Nat.le_trans (Nat.le_of_ble_eq_true rfl) hRc), (Nat.le_trans (Nat.le_of_ble_eq_true rfl) hRs)⟩) hS (fun q _ h => hFc q h) hFc (fun r_8 M_9 t H_7 locs ht hvm hw hB hz1 hk1 hS => ?_)
      have hp_10 := hw
      obtain ⟨hP1, hD1⟩ := hB
      rw [ht] at hP1
      obtain ⟨hP, hD⟩ := va_joinP (X := [(xa, .inr (11, [.ref x0, .int (nI x1), .ref x2, .int (nI x3), .ref x4, .ref x5, .ref x6, .int x7, .ref x8, .int x9, .int x10]))]) (cx := []) (wr := [(xa, .inr (11, [.ref x0, .int (nI x1), .ref x2, .int (nI x3), .ref x4, .ref x5, .ref x6, .int x7, .ref x8, .int x9, .int x10]))]) (rx := []) (pl := va_pl L M) (pl1 := va_pl L M) hP hD [] [0] rfl rfl (by decide) (by decide) hk1 hFc hP1 hD1
      have hP : va_P D vwCl ([(xa, .inr (11, [.ref x0, .int (nI x1), .ref x2, .int (nI x3), .ref x4, .ref x5, .ref x6, .int x7, .ref x8, .int x9, .int x10]))] ++ va_pl L M) H_7 := hP
      have hD : va_D A ([(xa, .inr (11, [.ref x0, .int (nI x1), .ref x2, .int (nI x3), .ref x4, .ref x5, .ref x6, .int x7, .ref x8, .int x9, .int x10]))] ++ va_pl L M) := hD
      rcases hp_10 with rfl | rfl
      · have hz := rfl (a := 0)
        refine lv_if_eq (tgt := 39) hx hb dX11_partner_20 (by decide) (fun c_11 => absurd c_11 (by decide)) (fun _ => ?_)
        refine lv_iload_n hx hb dX11_partner_23 rfl (lv_at hl 2 rfl) ?_
        refine lv_if_lt (tgt := 33) hx hb dX11_partner_24 (by decide) (fun c_12 => ?_) (fun c_12 => ?_)
        · have hz := rfl (a := 0)
          refine lv_aload_n hx hb dX11_partner_33 rfl (lv_at hl 0 rfl) ?_
          refine lv_iconst (v := 2) hx hb dX11_partner_34 (by decide) ?_
          have hPc := hP.sub (ws' := [(xa, .inr (11, [.ref x0, .int (nI x1), .ref x2, .int (nI x3), .ref x4, .ref x5, .ref x6, .int x7, .ref x8, .int x9, .int x10]))]) [0] rfl
          have hDc := hD.sub (ws' := [(xa, .inr (11, [.ref x0, .int (nI x1), .ref x2, .int (nI x3), .ref x4, .ref x5, .ref x6, .int x7, .ref x8, .int x9, .int x10]))]) [0] (by decide) rfl
          have hKc := hK.sub (tys' := []) [] rfl
          have hFc := va_free (wc := [(xa, .inr (11, [.ref x0, .int (nI x1), .ref x2, .int (nI x3), .ref x4, .ref x5, .ref x6, .int x7, .ref x8, .int x9, .int x10]))]) hD hS hA [0] rfl
          refine va_calli (va_runV (As := [.int 2]) (rest := []) ⟨hx, hb, hml, hown, hg⟩ (k_refuse l D H_7.size xa x0 (nI x1) x2 (nI x3) x4 x5 x6 x7 x8 x9 x10 2) (cwV 1 hg (gV wd_344 wd_345 wd_346 wd_3 wd_347) rfl rfl rfl (by decide +kernel) ⟨(Nat.le_trans (Nat.le_of_ble_eq_true rfl) hRf), (Nat.le_trans (Nat.le_of_ble_eq_true rfl) hRl)⟩) ⟨Pr.blind, va_recv hK hP (ci := 11) (q0 := 0) rfl rfl, fun U hU hW => ⟨rfl, Pr.at hPc hKc hDc hN hU hW⟩⟩ rfl rfl hl.1 rfl (lv_room (Nat.le_of_ble_eq_true rfl)) dX11_partner_35 ⟨(Nat.le_trans (Nat.le_of_ble_eq_true rfl) hRc), (Nat.le_trans (Nat.le_of_ble_eq_true rfl) hRs)⟩) hS (fun q _ h => hFc q h) hFc (fun r_14 M_15 t H_13 locs ht hvm hw hB hz1 hk1 hS => ?_)
          have hp_16 := hw
          obtain ⟨hP1, hK1, hD1⟩ := hB
          rw [ht] at hP1
          obtain ⟨hP, hD⟩ := va_joinQ (X := [(xa, .inr (11, [.ref x0, .int (nI x1), .ref x2, .int (nI x3), .ref x4, .ref x5, .ref x6, .int x7, .ref x8, .int x9, .int x10]))]) (cx := [(xa, .inr (11, [.ref x0, .int (nI x1), .ref x2, .int (nI x3), .ref x4, .ref x5, .ref x6, .int x7, .ref x8, .int x9, .int x10]))]) (wr := []) (w1 := [(xa, .inr (11, [.ref x0, .int (nI x1), .ref x2, .int (nI x3), .ref x4, .ref x5, .ref x6, .int x7, .ref x8, .int 2, .int (-1)]))]) (pl := va_pl L M) hP hD [0] [] rfl rfl (by decide) (by decide) hk1 hFc hP1 hD1
          have hP : va_P D vwCl ([(xa, .inr (11, [.ref x0, .int (nI x1), .ref x2, .int (nI x3), .ref x4, .ref x5, .ref x6, .int x7, .ref x8, .int 2, .int (-1)]))] ++ va_pl L M) H_13 := hP
          have hD : va_D A ([(xa, .inr (11, [.ref x0, .int (nI x1), .ref x2, .int (nI x3), .ref x4, .ref x5, .ref x6, .int x7, .ref x8, .int 2, .int (-1)]))] ++ va_pl L M) := hD
          have hq := Eq.symm hp_16
          subst hq
          refine W.widen (k := 1) (n := 4) (Nat.le_of_ble_eq_true rfl) (Nat.le_of_ble_eq_true rfl) ?_
          rw [hQ]
          exact W.iret (v := (-1)) hx hb hr (fun t ht hW9 => ⟨⟨(-1), (K, L, M), rfl, ⟨hX0, hW, hF, trivial⟩, ⟨x3, 2, (-1), (by omega), by rw [ht]; exact hP, hD⟩⟩, hS.F ht⟩) hS.2.2 dX11_partner_38
        · have hz := rfl (a := 0)
          refine lv_iload_n hx hb dX11_partner_27 rfl (lv_at hl 2 rfl) ?_
          refine lv_ldc (v := 1000000000) hx hb hown (hg _ wd_0) dX11_partner_28 ?_
          refine lv_icmp_le (tgt := 39) hx hb dX11_partner_30 (by decide) (fun c_17 => ?_) (fun c_17 => ?_)
          · have hz := rfl (a := 0)
            refine lv_iload_n hx hb dX11_partner_39 rfl (lv_at hl 1 rfl) ?_
            refine lv_iconst (v := 5) hx hb dX11_partner_40 (by decide) ?_
            refine lv_icmp_ne (tgt := 52) hx hb dX11_partner_41 (by decide) (fun c_18 => ?_) (fun c_18 => ?_)
            · have hz := rfl (a := 0)
              refine lv_null hx hb dX11_partner_52 ?_
              refine lv_astore_nN (lv' := [(3, .null), (0, .ref xa), (1, .int k1), (2, .int k2)]) hx hb dX11_partner_53 rfl hl (by decide) rfl (fun ls hl => ?_)
              refine lv_iload_n hx hb dX11_partner_54 rfl (lv_at hl 2 rfl) ?_
              refine lv_iconst (v := 5) hx hb dX11_partner_55 (by decide) ?_
              refine lv_icmp_ne (tgt := 69) hx hb dX11_partner_56 (by decide) (fun c_19 => ?_) (fun c_19 => absurd c_19 c_18)
              refine lv_aload_n hx hb dX11_partner_69 rfl (lv_at hl 1 rfl) ?_
              refine va_get (D := D) (ci := 11) (v := .int (nI x3)) (C := RX11) (T := TX11) (N := 11) hx hb hg inG11 hown hK hP 0 rfl rfl 3 (by decide) (hg _ wd_338) (fun _ h9 => h9) rfl dX11_partner_70 ?_
              refine lv_bipush (v := 40) hx hb dX11_partner_73 (by decide) ?_
              refine lv_icmp_lt (tgt := 85) hx hb dX11_partner_75 (by decide) (fun c_20 => ?_) (fun c_20 => ?_)
              · have hz := rfl (a := 0)
                have n_21 : x3 < 40 := (iLT (a := x3) (b := 40) (by omega) (by omega)).mp c_20
                refine lv_aload_n hx hb dX11_partner_85 rfl (lv_at hl 1 rfl) ?_
                refine va_get (D := D) (ci := 11) (v := .ref x2) (C := RX11) (T := TX11) (N := 11) hx hb hg inG11 hown hK hP 0 rfl rfl 2 (by decide) (hg _ wd_339) (fun _ h9 => h9) rfl dX11_partner_86 ?_
                refine lv_aload_n hx hb dX11_partner_89 rfl (lv_at hl 1 rfl) ?_
                refine va_get (D := D) (ci := 11) (v := .int (nI x3)) (C := RX11) (T := TX11) (N := 11) hx hb hg inG11 hown hK hP 0 rfl rfl 3 (by decide) (hg _ wd_338) (fun _ h9 => h9) rfl dX11_partner_90 ?_
                refine va_new (ci := 4) (fs := [.int 0, .int 0, .int 0, .null]) (C := RX4) (T := TX4) (N := 4) hx hb hg inG4 tyX4 tyX4_ok hown (hg _ wd_587) (hg _ wd_588) (hg _ wd_30) hK hP hD hS hA rfl dfX4 (Nat.le_trans (Nat.le_of_ble_eq_true rfl) hRc) (Nat.le_trans (Nat.le_of_ble_eq_true rfl) hRs) dX11_partner_93 (fun q_22 H_23 hP hD hS => ?_)
                have hP : va_P D vwCl ([(xa, .inr (11, [.ref x0, .int (nI x1), .ref x2, .int (nI x3), .ref x4, .ref x5, .ref x6, .int x7, .ref x8, .int x9, .int x10])), (q_22, .inr (4, [.int 0, .int 0, .int 0, .null]))] ++ va_pl L M) H_23 := hP.swap
                have hD : va_D A ([(xa, .inr (11, [.ref x0, .int (nI x1), .ref x2, .int (nI x3), .ref x4, .ref x5, .ref x6, .int x7, .ref x8, .int x9, .int x10])), (q_22, .inr (4, [.int 0, .int 0, .int 0, .null]))] ++ va_pl L M) := hD.swap
                refine W.widen (k := 1) (n := 4) (Nat.le_of_ble_eq_true rfl) (Nat.le_of_ble_eq_true rfl) ?_
                refine lv_dup hx hb dX11_partner_96 rfl ?_
                refine lv_aload_n hx hb dX11_partner_97 rfl (lv_at hl 1 rfl) ?_
                refine va_get (D := D) (ci := 11) (v := .int (nI x3)) (C := RX11) (T := TX11) (N := 11) hx hb hg inG11 hown hK hP 0 rfl rfl 3 (by decide) (hg _ wd_338) (fun _ h9 => h9) rfl dX11_partner_98 ?_
                refine lv_iload_n hx hb dX11_partner_101 rfl (lv_at hl 2 rfl) ?_
                refine lv_iload_n hx hb dX11_partner_102 rfl (lv_at hl 3 rfl) ?_
                refine lv_aload_nN hx hb dX11_partner_103 rfl (lv_at hl 0 rfl) ?_
                have hPc := hP.sub (ws' := [(q_22, .inr (4, [.int 0, .int 0, .int 0, .null]))]) [1] rfl
                have hDc := hD.sub (ws' := [(q_22, .inr (4, [.int 0, .int 0, .int 0, .null]))]) [1] (by decide) rfl
                have hKc := hK.sub (tys' := []) [] rfl
                have hFc := va_free (wc := [(q_22, .inr (4, [.int 0, .int 0, .int 0, .null]))]) hD hS hA [1] rfl
                refine va_callv (va_runI (As := [.int (nI x3), .int k1, .int k2, .null]) (rest := [.ref q_22, .int (nI x3), .ref x2]) ⟨hx, hb, hml, hown, hg⟩ (k_Partner_n l D H_23.size q_22 (nI x3) k1 k2) (cwI 4 hg (gB wd_589) rfl rfl rfl (hg _ wd_30) (hg _ wd_590) (hg _ wd_591) rfl (by decide +kernel) ⟨(Nat.le_trans (Nat.le_of_ble_eq_true rfl) hRf), (Nat.le_trans (Nat.le_of_ble_eq_true rfl) hRl)⟩) ⟨Pr.blind, fun U hU hW => ⟨rfl, Pr.at hPc hKc hDc hN hU hW⟩⟩ rfl rfl hl.1 rfl (lv_room (Nat.le_of_ble_eq_true rfl)) dX11_partner_104 ⟨(Nat.le_trans (Nat.le_of_ble_eq_true rfl) hRc), (Nat.le_trans (Nat.le_of_ble_eq_true rfl) hRs)⟩) hS (fun q _ h => hFc q h) hFc (fun M_26 t H_24 locs ht hvm hw hB hz1 hk1 hS => ?_)
                have hp_27 := hw
                obtain ⟨hP1, hK1, hD1⟩ := hB
                rw [ht] at hP1
                obtain ⟨hP, hD⟩ := va_joinQ (X := [(xa, .inr (11, [.ref x0, .int (nI x1), .ref x2, .int (nI x3), .ref x4, .ref x5, .ref x6, .int x7, .ref x8, .int x9, .int x10])), (q_22, .inr (4, [.int 0, .int 0, .int 0, .null]))]) (cx := [(q_22, .inr (4, [.int 0, .int 0, .int 0, .null]))]) (wr := [(xa, .inr (11, [.ref x0, .int (nI x1), .ref x2, .int (nI x3), .ref x4, .ref x5, .ref x6, .int x7, .ref x8, .int x9, .int x10]))]) (w1 := [(q_22, .inr (4, [.int (nI x3), .int k1, .int k2, .null]))]) (pl := va_pl L M) hP hD [1] [0] rfl rfl (by decide) (by decide) hk1 hFc hP1 hD1
                have hP : va_P D vwCl ([(xa, .inr (11, [.ref x0, .int (nI x1), .ref x2, .int (nI x3), .ref x4, .ref x5, .ref x6, .int x7, .ref x8, .int x9, .int x10])), (q_22, .inr (4, [.int (nI x3), .int k1, .int k2, .null]))] ++ va_pl L M) H_24 := hP
                have hD : va_D A ([(xa, .inr (11, [.ref x0, .int (nI x1), .ref x2, .int (nI x3), .ref x4, .ref x5, .ref x6, .int x7, .ref x8, .int x9, .int x10])), (q_22, .inr (4, [.int (nI x3), .int k1, .int k2, .null]))] ++ va_pl L M) := hD
                have hP : va_P D vwCl (([(xa, .inr (11, [.ref x0, .int (nI x1), .ref x2, .int (nI x3), .ref x4, .ref x5, .ref x6, .int x7, .ref x8, .int x9, .int x10]))] ++ [(q_22, .inr (4, [.int (nI x3), .int k1, .int k2, .null]))]) ++ va_pl L M) H_24 := hP.part (cx := [(xa, .inr (11, [.ref x0, .int (nI x1), .ref x2, .int (nI x3), .ref x4, .ref x5, .ref x6, .int x7, .ref x8, .int x9, .int x10]))] ++ [(q_22, .inr (4, [.int (nI x3), .int k1, .int k2, .null]))]) [0, 1] rfl
                have hD : va_D A (([(xa, .inr (11, [.ref x0, .int (nI x1), .ref x2, .int (nI x3), .ref x4, .ref x5, .ref x6, .int x7, .ref x8, .int x9, .int x10]))] ++ [(q_22, .inr (4, [.int (nI x3), .int k1, .int k2, .null]))]) ++ va_pl L M) := hD.part (cx := [(xa, .inr (11, [.ref x0, .int (nI x1), .ref x2, .int (nI x3), .ref x4, .ref x5, .ref x6, .int x7, .ref x8, .int x9, .int x10]))] ++ [(q_22, .inr (4, [.int (nI x3), .int k1, .int k2, .null]))]) [0, 1] (by decide) rfl
                obtain ⟨K9, L9, M_28, hx9, i_29, hW, hP, hD, hM_30, hfr9, hq9⟩ := adoptE 4 0 hP hD hW (fun K' L' x i => (⟨(nI x3), k1, k2, none, rfl, iskN.none⟩ : gd_4 K' L' _))
                have hF : fr K0 L0 [19] M0 M_28 := hF.adX hX0 hfr9
                have hX0 := hX0.tr hx9
                have i_31 := i0.ext hx9
                have i_32 := i2.ext hx9
                have i_33 := i4.ext hx9
                have i_34 := i5.ext hx9
                have i_35 := i6.ext hx9
                have i_36 := i8.ext hx9
                obtain ⟨K, L, hK9, hL9⟩ : ∃ (K : Kp) (L : List Nat), K = K9 ∧ L = L9 := ⟨_, _, rfl, rfl⟩
                subst hK9
                subst hL9
                have hP : va_P D vwCl ([(xa, .inr (11, [.ref x0, .int (nI x1), .ref x2, .int (nI x3), .ref x4, .ref x5, .ref x6, .int x7, .ref x8, .int x9, .int x10]))] ++ va_pl L M_28) H_24 := hP
                have hD : va_D A ([(xa, .inr (11, [.ref x0, .int (nI x1), .ref x2, .int (nI x3), .ref x4, .ref x5, .ref x6, .int x7, .ref x8, .int x9, .int x10]))] ++ va_pl L M_28) := hD
                obtain ⟨f37, hM37, hf37⟩ := hW.open_19 i_32
                obtain ⟨v39_0, v39_1, v39_2, v39_3, hM39, h39_3⟩ := hW.open_4 i_29
                refine pg_astq (r := (RX4, TX4, 4)) hx hb hK hP hD hS i_32.1 5 4 hM37 rfl i_29.1 hM39 rfl (inbN x3 40 (by omega) (by omega)) dX11_partner_107 (fun H_38 locs hP hD hS => ?_)
                obtain ⟨M_40, eM_40⟩ : ∃ M1 : Hp, M1 = va_up M_28 x2 (.inl (cy 19, 40, .inr (.inr (.inr (.inr (va_up f37 ((nI x3) : Int32).toNatClampNeg (some q_22))))))) := ⟨_, rfl⟩
                have hP : va_P D vwCl ([(xa, .inr (11, [.ref x0, .int (nI x1), .ref x2, .int (nI x3), .ref x4, .ref x5, .ref x6, .int x7, .ref x8, .int x9, .int x10]))] ++ va_pl L M_40) H_38 := by rw [eM_40]; exact hP
                have hD : va_D A ([(xa, .inr (11, [.ref x0, .int (nI x1), .ref x2, .int (nI x3), .ref x4, .ref x5, .ref x6, .int x7, .ref x8, .int x9, .int x10]))] ++ va_pl L M_40) := by rw [eM_40]; exact hD
                have hW : WOK cy K L M_40 := by rw [eM_40]; exact hW.up_19 i_32 ⟨_, rfl, (upN hf37 i_29)⟩
                have hF : fr K0 L0 [19] M0 M_40 := by rw [eM_40]; exact hF.upX hX0 i_32 (by decide)
                have hM_41 : M_40 x2 = .inl (cy 19, 40, .inr (.inr (.inr (.inr (va_up f37 ((nI x3) : Int32).toNatClampNeg (some q_22)))))) := by rw [eM_40]; exact va_up_self _ _ _
                have hM_42 : M_40 q_22 = .inr (4, [.int v39_0, .int v39_1, .int v39_2, va_rf v39_3]) := by rw [eM_40, va_up_ne _ _ (i_29.neT i_32 (by decide))]; exact hM39
                have hf_44 : ∀ j, j < 40 → iskN K L ((va_up f37 ((nI x3) : Int32).toNatClampNeg (some q_22)) j) 4 0 := (upN hf37 i_29)
                obtain ⟨f_43, ef_43⟩ : ∃ f : Nat → Option Nat, f = va_up f37 ((nI x3) : Int32).toNatClampNeg (some q_22) := ⟨_, rfl⟩
                rw [← ef_43] at hM_41 hf_44
                have hk_45 : f_43 ((nI x3) : Int32).toNatClampNeg = some q_22 := by rw [ef_43]; exact va_up_self _ _ _
                clear ef_43
                refine lv_aload_n hx hb dX11_partner_108 rfl (lv_at hl 1 rfl) ?_
                refine lv_dup hx hb dX11_partner_109 rfl ?_
                refine va_get (D := D) (ci := 11) (v := .int (nI x3)) (C := RX11) (T := TX11) (N := 11) hx hb hg inG11 hown hK hP 0 rfl rfl 3 (by decide) (hg _ wd_338) (fun _ h9 => h9) rfl dX11_partner_110 ?_
                refine lv_iconst (v := 1) hx hb dX11_partner_113 (by decide) ?_
                refine lv_iadd hx hb dX11_partner_114 ?_
                refine lv_topi (fun f_46 ef_46 => ?_)
                obtain rfl : f_46 = (nI (x3 + 1)) := ef_46.trans (nI_add x3 1)
                refine va_put (D := D) (ci := 11) (v := .int (nI (x3 + 1))) (ty := .int) (C := RX11) (T := TX11) (N := 11) hx hb hg inG11 tyX11 tyX11_ok nmX11 hown hK hP hD hS 0 rfl rfl 3 (by decide) (hg _ wd_338) (fun _ h9 => h9) rfl (by decide +kernel) rfl rfl (Nat.le_of_ble_eq_true rfl) dX11_partner_115 (fun H_47 locs hP hD hS => ?_)
                have hP : va_P D vwCl ([(xa, .inr (11, [.ref x0, .int (nI x1), .ref x2, .int (nI (x3 + 1)), .ref x4, .ref x5, .ref x6, .int x7, .ref x8, .int x9, .int x10]))] ++ va_pl L M_40) H_47 := hP
                have hD : va_D A ([(xa, .inr (11, [.ref x0, .int (nI x1), .ref x2, .int (nI (x3 + 1)), .ref x4, .ref x5, .ref x6, .int x7, .ref x8, .int x9, .int x10]))] ++ va_pl L M_40) := hD
                refine lv_aload_n hx hb dX11_partner_118 rfl (lv_at hl 1 rfl) ?_
                refine lv_aload_n hx hb dX11_partner_119 rfl (lv_at hl 1 rfl) ?_
                refine va_get (D := D) (ci := 11) (v := .int (nI (x3 + 1))) (C := RX11) (T := TX11) (N := 11) hx hb hg inG11 hown hK hP 0 rfl rfl 3 (by decide) (hg _ wd_338) (fun _ h9 => h9) rfl dX11_partner_120 ?_
                refine lv_iconst (v := 1) hx hb dX11_partner_123 (by decide) ?_
                refine lv_isub hx hb dX11_partner_124 ?_
                refine lv_topi (fun f_48 ef_48 => ?_)
                obtain rfl : f_48 = (nI ((x3 + 1) - 1)) := ef_48.trans (nI_prd (by omega))
                have hPc := hP.sub (ws' := [(xa, .inr (11, [.ref x0, .int (nI x1), .ref x2, .int (nI (x3 + 1)), .ref x4, .ref x5, .ref x6, .int x7, .ref x8, .int x9, .int x10]))]) [0] rfl
                have hDc := hD.sub (ws' := [(xa, .inr (11, [.ref x0, .int (nI x1), .ref x2, .int (nI (x3 + 1)), .ref x4, .ref x5, .ref x6, .int x7, .ref x8, .int x9, .int x10]))]) [0] (by decide) rfl
                have hKc := hK.sub (tys' := []) [] rfl
                have hFc := va_free (wc := [(xa, .inr (11, [.ref x0, .int (nI x1), .ref x2, .int (nI (x3 + 1)), .ref x4, .ref x5, .ref x6, .int x7, .ref x8, .int x9, .int x10]))]) hD hS hA [0] rfl
                refine va_calli (va_runV (As := [.int (nI ((x3 + 1) - 1))]) (rest := []) ⟨hx, hb, hml, hown, hg⟩ (k_accept l D H_47.size xa x0 (nI x1) x2 (nI (x3 + 1)) x4 x5 x6 x7 x8 x9 x10 (nI ((x3 + 1) - 1))) (cwV 1 hg (gV wd_356 wd_357 wd_358 wd_3 wd_359) rfl rfl rfl (by decide +kernel) ⟨(Nat.le_trans (Nat.le_of_ble_eq_true rfl) hRf), (Nat.le_trans (Nat.le_of_ble_eq_true rfl) hRl)⟩) ⟨Pr.blind, va_recv hK hP (ci := 11) (q0 := 0) rfl rfl, fun U hU hW => ⟨rfl, Pr.at hPc hKc hDc hN hU hW⟩⟩ rfl rfl hl.1 rfl (lv_room (Nat.le_of_ble_eq_true rfl)) dX11_partner_125 ⟨(Nat.le_trans (Nat.le_of_ble_eq_true rfl) hRc), (Nat.le_trans (Nat.le_of_ble_eq_true rfl) hRs)⟩) hS (fun q _ h => hFc q h) hFc (fun r_50 M_51 t H_49 locs ht hvm hw hB hz1 hk1 hS => ?_)
                have hp_52 := hw
                obtain ⟨hP1, hK1, hD1⟩ := hB
                rw [ht] at hP1
                obtain ⟨hP, hD⟩ := va_joinQ (X := [(xa, .inr (11, [.ref x0, .int (nI x1), .ref x2, .int (nI (x3 + 1)), .ref x4, .ref x5, .ref x6, .int x7, .ref x8, .int x9, .int x10]))]) (cx := [(xa, .inr (11, [.ref x0, .int (nI x1), .ref x2, .int (nI (x3 + 1)), .ref x4, .ref x5, .ref x6, .int x7, .ref x8, .int x9, .int x10]))]) (wr := []) (w1 := [(xa, .inr (11, [.ref x0, .int (nI x1), .ref x2, .int (nI (x3 + 1)), .ref x4, .ref x5, .ref x6, .int x7, .ref x8, .int 0, .int (-1)]))]) (pl := va_pl L M_40) hP hD [0] [] rfl rfl (by decide) (by decide) hk1 hFc hP1 hD1
                have hP : va_P D vwCl ([(xa, .inr (11, [.ref x0, .int (nI x1), .ref x2, .int (nI (x3 + 1)), .ref x4, .ref x5, .ref x6, .int x7, .ref x8, .int 0, .int (-1)]))] ++ va_pl L M_40) H_49 := hP
                have hD : va_D A ([(xa, .inr (11, [.ref x0, .int (nI x1), .ref x2, .int (nI (x3 + 1)), .ref x4, .ref x5, .ref x6, .int x7, .ref x8, .int 0, .int (-1)]))] ++ va_pl L M_40) := hD
                have hq := Eq.symm hp_52
                subst hq
                rw [hQ]
                exact W.iret (v := (nI ((x3 + 1) - 1))) hx hb hr (fun t ht hW9 => ⟨⟨(nI ((x3 + 1) - 1)), (K, L, M_40), rfl, ⟨hX0, hW, hF, trivial⟩, ⟨(x3 + 1), 0, (-1), (by omega), by rw [ht]; exact hP, hD⟩⟩, hS.F ht⟩) hS.2.2 dX11_partner_128
              · have hz := rfl (a := 0)
                have n_53 : ¬ (x3 < 40) := fun q => c_20 ((iLT (a := x3) (b := 40) (by omega) (by omega)).mpr q)
                refine lv_aload_n hx hb dX11_partner_78 rfl (lv_at hl 1 rfl) ?_
                refine lv_bipush (v := 9) hx hb dX11_partner_79 (by decide) ?_
                have hPc := hP.sub (ws' := [(xa, .inr (11, [.ref x0, .int (nI x1), .ref x2, .int (nI x3), .ref x4, .ref x5, .ref x6, .int x7, .ref x8, .int x9, .int x10]))]) [0] rfl
                have hDc := hD.sub (ws' := [(xa, .inr (11, [.ref x0, .int (nI x1), .ref x2, .int (nI x3), .ref x4, .ref x5, .ref x6, .int x7, .ref x8, .int x9, .int x10]))]) [0] (by decide) rfl
                have hKc := hK.sub (tys' := []) [] rfl
                have hFc := va_free (wc := [(xa, .inr (11, [.ref x0, .int (nI x1), .ref x2, .int (nI x3), .ref x4, .ref x5, .ref x6, .int x7, .ref x8, .int x9, .int x10]))]) hD hS hA [0] rfl
                refine va_calli (va_runV (As := [.int 9]) (rest := []) ⟨hx, hb, hml, hown, hg⟩ (k_refuse l D H_7.size xa x0 (nI x1) x2 (nI x3) x4 x5 x6 x7 x8 x9 x10 9) (cwV 1 hg (gV wd_344 wd_345 wd_346 wd_3 wd_347) rfl rfl rfl (by decide +kernel) ⟨(Nat.le_trans (Nat.le_of_ble_eq_true rfl) hRf), (Nat.le_trans (Nat.le_of_ble_eq_true rfl) hRl)⟩) ⟨Pr.blind, va_recv hK hP (ci := 11) (q0 := 0) rfl rfl, fun U hU hW => ⟨rfl, Pr.at hPc hKc hDc hN hU hW⟩⟩ rfl rfl hl.1 rfl (lv_room (Nat.le_of_ble_eq_true rfl)) dX11_partner_81 ⟨(Nat.le_trans (Nat.le_of_ble_eq_true rfl) hRc), (Nat.le_trans (Nat.le_of_ble_eq_true rfl) hRs)⟩) hS (fun q _ h => hFc q h) hFc (fun r_55 M_56 t H_54 locs ht hvm hw hB hz1 hk1 hS => ?_)
                have hp_57 := hw
                obtain ⟨hP1, hK1, hD1⟩ := hB
                rw [ht] at hP1
                obtain ⟨hP, hD⟩ := va_joinQ (X := [(xa, .inr (11, [.ref x0, .int (nI x1), .ref x2, .int (nI x3), .ref x4, .ref x5, .ref x6, .int x7, .ref x8, .int x9, .int x10]))]) (cx := [(xa, .inr (11, [.ref x0, .int (nI x1), .ref x2, .int (nI x3), .ref x4, .ref x5, .ref x6, .int x7, .ref x8, .int x9, .int x10]))]) (wr := []) (w1 := [(xa, .inr (11, [.ref x0, .int (nI x1), .ref x2, .int (nI x3), .ref x4, .ref x5, .ref x6, .int x7, .ref x8, .int 9, .int (-1)]))]) (pl := va_pl L M) hP hD [0] [] rfl rfl (by decide) (by decide) hk1 hFc hP1 hD1
                have hP : va_P D vwCl ([(xa, .inr (11, [.ref x0, .int (nI x1), .ref x2, .int (nI x3), .ref x4, .ref x5, .ref x6, .int x7, .ref x8, .int 9, .int (-1)]))] ++ va_pl L M) H_54 := hP
                have hD : va_D A ([(xa, .inr (11, [.ref x0, .int (nI x1), .ref x2, .int (nI x3), .ref x4, .ref x5, .ref x6, .int x7, .ref x8, .int 9, .int (-1)]))] ++ va_pl L M) := hD
                have hq := Eq.symm hp_57
                subst hq
                refine W.widen (k := 1) (n := 4) (Nat.le_of_ble_eq_true rfl) (Nat.le_of_ble_eq_true rfl) ?_
                rw [hQ]
                exact W.iret (v := (-1)) hx hb hr (fun t ht hW9 => ⟨⟨(-1), (K, L, M), rfl, ⟨hX0, hW, hF, trivial⟩, ⟨x3, 9, (-1), (by omega), by rw [ht]; exact hP, hD⟩⟩, hS.F ht⟩) hS.2.2 dX11_partner_84
            · have hz := rfl (a := 0)
              refine lv_aload_n hx hb dX11_partner_44 rfl (lv_at hl 0 rfl) ?_
              refine lv_iload_n hx hb dX11_partner_45 rfl (lv_at hl 2 rfl) ?_
              have hPc : va_P D vwCl ([(xa, .inr (11, [.ref x0, .int (nI x1), .ref x2, .int (nI x3), .ref x4, .ref x5, .ref x6, .int x7, .ref x8, .int x9, .int x10]))] ++ va_pl L M) H_7 := hP
              have hDc : va_D A ([(xa, .inr (11, [.ref x0, .int (nI x1), .ref x2, .int (nI x3), .ref x4, .ref x5, .ref x6, .int x7, .ref x8, .int x9, .int x10]))] ++ va_pl L M) := hD
              have hFc : ∀ q, va_A ([(xa, .inr (11, [.ref x0, .int (nI x1), .ref x2, .int (nI x3), .ref x4, .ref x5, .ref x6, .int x7, .ref x8, .int x9, .int x10]))] ++ va_pl L M) H_7.size q → A q := pg_free hDc hS hA
              refine va_callq (va_runV (As := [.int k2]) (rest := []) ⟨hx, hb, hml, hown, hg⟩ (s_X11_houseAt l D cy K L M H_7.size xa x0 x1 x2 x3 x4 x5 x6 x7 x8 x9 x10 k2  hW i0 b1 i2 b3 i4 i5 i6 i8) (cwV 1 hg (gV wd_340 wd_341 wd_342 wd_3 wd_343) rfl rfl rfl (by decide +kernel) ⟨(Nat.le_trans (Nat.le_of_ble_eq_true rfl) hRf), (Nat.le_trans (Nat.le_of_ble_eq_true rfl) hRl)⟩) ⟨PG.blind, va_recv hK hP (ci := 11) (q0 := 0) rfl rfl, fun U hU hW => ⟨rfl, PG.at hPc hK hDc hN hU hW⟩⟩ rfl rfl hl.1 rfl (lv_room (Nat.le_of_ble_eq_true rfl)) dX11_partner_46 ⟨(Nat.le_trans (Nat.le_of_ble_eq_true rfl) hRc), (Nat.le_trans (Nat.le_of_ble_eq_true rfl) hRs)⟩) hS (fun q _ h => hFc q h) hFc (fun r_59 M_60 t H_58 locs ht hvm hw hB hz1 hk1 hS => ?_)
              have hp_61 := hw
              obtain ⟨hP1, hD1⟩ := hB
              rw [ht] at hP1
              have hP : va_P D vwCl ([(xa, .inr (11, [.ref x0, .int (nI x1), .ref x2, .int (nI x3), .ref x4, .ref x5, .ref x6, .int x7, .ref x8, .int x9, .int x10]))] ++ va_pl L M) H_58 := hP1
              have hD : va_D A ([(xa, .inr (11, [.ref x0, .int (nI x1), .ref x2, .int (nI x3), .ref x4, .ref x5, .ref x6, .int x7, .ref x8, .int x9, .int x10]))] ++ va_pl L M) := hD1.mono hFc
              rcases r_59 with _ | b_62
              · have hz := rfl (a := 0)
                refine lv_goto (tgt := 53) hx hb dX11_partner_49 (by decide) ?_
                refine lv_astore_nN (lv' := [(3, .null), (0, .ref xa), (1, .int k1), (2, .int k2)]) hx hb dX11_partner_53 rfl hl (by decide) rfl (fun ls hl => ?_)
                refine lv_iload_n hx hb dX11_partner_54 rfl (lv_at hl 2 rfl) ?_
                refine lv_iconst (v := 5) hx hb dX11_partner_55 (by decide) ?_
                refine lv_icmp_ne (tgt := 69) hx hb dX11_partner_56 (by decide) (fun c_63 => absurd c_18 c_63) (fun c_63 => ?_)
                refine lv_aload_nN hx hb dX11_partner_59 rfl (lv_at hl 0 rfl) ?_
                refine lv_ifnonnullN hx hb dX11_partner_60 ?_
                refine lv_aload_n hx hb dX11_partner_63 rfl (lv_at hl 1 rfl) ?_
                refine lv_iconst (v := 1) hx hb dX11_partner_64 (by decide) ?_
                have hPc := hP.sub (ws' := [(xa, .inr (11, [.ref x0, .int (nI x1), .ref x2, .int (nI x3), .ref x4, .ref x5, .ref x6, .int x7, .ref x8, .int x9, .int x10]))]) [0] rfl
                have hDc := hD.sub (ws' := [(xa, .inr (11, [.ref x0, .int (nI x1), .ref x2, .int (nI x3), .ref x4, .ref x5, .ref x6, .int x7, .ref x8, .int x9, .int x10]))]) [0] (by decide) rfl
                have hKc := hK.sub (tys' := []) [] rfl
                have hFc := va_free (wc := [(xa, .inr (11, [.ref x0, .int (nI x1), .ref x2, .int (nI x3), .ref x4, .ref x5, .ref x6, .int x7, .ref x8, .int x9, .int x10]))]) hD hS hA [0] rfl
                refine va_calli (va_runV (As := [.int 1]) (rest := []) ⟨hx, hb, hml, hown, hg⟩ (k_refuse l D H_58.size xa x0 (nI x1) x2 (nI x3) x4 x5 x6 x7 x8 x9 x10 1) (cwV 1 hg (gV wd_344 wd_345 wd_346 wd_3 wd_347) rfl rfl rfl (by decide +kernel) ⟨(Nat.le_trans (Nat.le_of_ble_eq_true rfl) hRf), (Nat.le_trans (Nat.le_of_ble_eq_true rfl) hRl)⟩) ⟨Pr.blind, va_recv hK hP (ci := 11) (q0 := 0) rfl rfl, fun U hU hW => ⟨rfl, Pr.at hPc hKc hDc hN hU hW⟩⟩ rfl rfl hl.1 rfl (lv_room (Nat.le_of_ble_eq_true rfl)) dX11_partner_65 ⟨(Nat.le_trans (Nat.le_of_ble_eq_true rfl) hRc), (Nat.le_trans (Nat.le_of_ble_eq_true rfl) hRs)⟩) hS (fun q _ h => hFc q h) hFc (fun r_65 M_66 t H_64 locs ht hvm hw hB hz1 hk1 hS => ?_)
                have hp_67 := hw
                obtain ⟨hP1, hK1, hD1⟩ := hB
                rw [ht] at hP1
                obtain ⟨hP, hD⟩ := va_joinQ (X := [(xa, .inr (11, [.ref x0, .int (nI x1), .ref x2, .int (nI x3), .ref x4, .ref x5, .ref x6, .int x7, .ref x8, .int x9, .int x10]))]) (cx := [(xa, .inr (11, [.ref x0, .int (nI x1), .ref x2, .int (nI x3), .ref x4, .ref x5, .ref x6, .int x7, .ref x8, .int x9, .int x10]))]) (wr := []) (w1 := [(xa, .inr (11, [.ref x0, .int (nI x1), .ref x2, .int (nI x3), .ref x4, .ref x5, .ref x6, .int x7, .ref x8, .int 1, .int (-1)]))]) (pl := va_pl L M) hP hD [0] [] rfl rfl (by decide) (by decide) hk1 hFc hP1 hD1
                have hP : va_P D vwCl ([(xa, .inr (11, [.ref x0, .int (nI x1), .ref x2, .int (nI x3), .ref x4, .ref x5, .ref x6, .int x7, .ref x8, .int 1, .int (-1)]))] ++ va_pl L M) H_64 := hP
                have hD : va_D A ([(xa, .inr (11, [.ref x0, .int (nI x1), .ref x2, .int (nI x3), .ref x4, .ref x5, .ref x6, .int x7, .ref x8, .int 1, .int (-1)]))] ++ va_pl L M) := hD
                have hq := Eq.symm hp_67
                subst hq
                refine W.widen (k := 1) (n := 4) (Nat.le_of_ble_eq_true rfl) (Nat.le_of_ble_eq_true rfl) ?_
                rw [hQ]
                exact W.iret (v := (-1)) hx hb hr (fun t ht hW9 => ⟨⟨(-1), (K, L, M), rfl, ⟨hX0, hW, hF, trivial⟩, ⟨x3, 1, (-1), (by omega), by rw [ht]; exact hP, hD⟩⟩, hS.F ht⟩) hS.2.2 dX11_partner_68
              · have hb_68 := hp_61 b_62 rfl
                refine lv_goto (tgt := 53) hx hb dX11_partner_49 (by decide) ?_
                refine lv_astore_n (lv' := [(3, .ref b_62), (0, .ref xa), (1, .int k1), (2, .int k2)]) hx hb dX11_partner_53 rfl hl (by decide) rfl (fun ls hl => ?_)
                refine lv_iload_n hx hb dX11_partner_54 rfl (lv_at hl 2 rfl) ?_
                refine lv_iconst (v := 5) hx hb dX11_partner_55 (by decide) ?_
                refine lv_icmp_ne (tgt := 69) hx hb dX11_partner_56 (by decide) (fun c_69 => absurd c_18 c_69) (fun c_69 => ?_)
                refine lv_aload_n hx hb dX11_partner_59 rfl (lv_at hl 0 rfl) ?_
                refine lv_ifnonnull (tgt := 69) hx hb dX11_partner_60 (by decide) ?_
                refine lv_aload_n hx hb dX11_partner_69 rfl (lv_at hl 1 rfl) ?_
                refine va_get (D := D) (ci := 11) (v := .int (nI x3)) (C := RX11) (T := TX11) (N := 11) hx hb hg inG11 hown hK hP 0 rfl rfl 3 (by decide) (hg _ wd_338) (fun _ h9 => h9) rfl dX11_partner_70 ?_
                refine lv_bipush (v := 40) hx hb dX11_partner_73 (by decide) ?_
                refine lv_icmp_lt (tgt := 85) hx hb dX11_partner_75 (by decide) (fun c_70 => ?_) (fun c_70 => ?_)
                · have hz := rfl (a := 0)
                  have n_71 : x3 < 40 := (iLT (a := x3) (b := 40) (by omega) (by omega)).mp c_70
                  refine lv_aload_n hx hb dX11_partner_85 rfl (lv_at hl 1 rfl) ?_
                  refine va_get (D := D) (ci := 11) (v := .ref x2) (C := RX11) (T := TX11) (N := 11) hx hb hg inG11 hown hK hP 0 rfl rfl 2 (by decide) (hg _ wd_339) (fun _ h9 => h9) rfl dX11_partner_86 ?_
                  refine lv_aload_n hx hb dX11_partner_89 rfl (lv_at hl 1 rfl) ?_
                  refine va_get (D := D) (ci := 11) (v := .int (nI x3)) (C := RX11) (T := TX11) (N := 11) hx hb hg inG11 hown hK hP 0 rfl rfl 3 (by decide) (hg _ wd_338) (fun _ h9 => h9) rfl dX11_partner_90 ?_
                  refine va_new (ci := 4) (fs := [.int 0, .int 0, .int 0, .null]) (C := RX4) (T := TX4) (N := 4) hx hb hg inG4 tyX4 tyX4_ok hown (hg _ wd_587) (hg _ wd_588) (hg _ wd_30) hK hP hD hS hA rfl dfX4 (Nat.le_trans (Nat.le_of_ble_eq_true rfl) hRc) (Nat.le_trans (Nat.le_of_ble_eq_true rfl) hRs) dX11_partner_93 (fun q_72 H_73 hP hD hS => ?_)
                  have hP : va_P D vwCl ([(xa, .inr (11, [.ref x0, .int (nI x1), .ref x2, .int (nI x3), .ref x4, .ref x5, .ref x6, .int x7, .ref x8, .int x9, .int x10])), (q_72, .inr (4, [.int 0, .int 0, .int 0, .null]))] ++ va_pl L M) H_73 := hP.swap
                  have hD : va_D A ([(xa, .inr (11, [.ref x0, .int (nI x1), .ref x2, .int (nI x3), .ref x4, .ref x5, .ref x6, .int x7, .ref x8, .int x9, .int x10])), (q_72, .inr (4, [.int 0, .int 0, .int 0, .null]))] ++ va_pl L M) := hD.swap
                  refine W.widen (k := 1) (n := 4) (Nat.le_of_ble_eq_true rfl) (Nat.le_of_ble_eq_true rfl) ?_
                  refine lv_dup hx hb dX11_partner_96 rfl ?_
                  refine lv_aload_n hx hb dX11_partner_97 rfl (lv_at hl 1 rfl) ?_
                  refine va_get (D := D) (ci := 11) (v := .int (nI x3)) (C := RX11) (T := TX11) (N := 11) hx hb hg inG11 hown hK hP 0 rfl rfl 3 (by decide) (hg _ wd_338) (fun _ h9 => h9) rfl dX11_partner_98 ?_
                  refine lv_iload_n hx hb dX11_partner_101 rfl (lv_at hl 2 rfl) ?_
                  refine lv_iload_n hx hb dX11_partner_102 rfl (lv_at hl 3 rfl) ?_
                  refine lv_aload_n hx hb dX11_partner_103 rfl (lv_at hl 0 rfl) ?_
                  have hPc := hP.sub (ws' := [(q_72, .inr (4, [.int 0, .int 0, .int 0, .null]))]) [1] rfl
                  have hDc := hD.sub (ws' := [(q_72, .inr (4, [.int 0, .int 0, .int 0, .null]))]) [1] (by decide) rfl
                  have hKc := hK.sub (tys' := []) [] rfl
                  have hFc := va_free (wc := [(q_72, .inr (4, [.int 0, .int 0, .int 0, .null]))]) hD hS hA [1] rfl
                  refine va_callv (va_runI (As := [.int (nI x3), .int k1, .int k2, .ref b_62]) (rest := [.ref q_72, .int (nI x3), .ref x2]) ⟨hx, hb, hml, hown, hg⟩ (k_Partner_r l D H_73.size q_72 (nI x3) k1 k2 b_62) (cwI 4 hg (gB wd_589) rfl rfl rfl (hg _ wd_30) (hg _ wd_590) (hg _ wd_591) rfl (by decide +kernel) ⟨(Nat.le_trans (Nat.le_of_ble_eq_true rfl) hRf), (Nat.le_trans (Nat.le_of_ble_eq_true rfl) hRl)⟩) ⟨Pr.blind, fun U hU hW => ⟨rfl, Pr.at hPc hKc hDc hN hU hW⟩⟩ rfl rfl hl.1 rfl (lv_room (Nat.le_of_ble_eq_true rfl)) dX11_partner_104 ⟨(Nat.le_trans (Nat.le_of_ble_eq_true rfl) hRc), (Nat.le_trans (Nat.le_of_ble_eq_true rfl) hRs)⟩) hS (fun q _ h => hFc q h) hFc (fun M_76 t H_74 locs ht hvm hw hB hz1 hk1 hS => ?_)
                  have hp_77 := hw
                  obtain ⟨hP1, hK1, hD1⟩ := hB
                  rw [ht] at hP1
                  obtain ⟨hP, hD⟩ := va_joinQ (X := [(xa, .inr (11, [.ref x0, .int (nI x1), .ref x2, .int (nI x3), .ref x4, .ref x5, .ref x6, .int x7, .ref x8, .int x9, .int x10])), (q_72, .inr (4, [.int 0, .int 0, .int 0, .null]))]) (cx := [(q_72, .inr (4, [.int 0, .int 0, .int 0, .null]))]) (wr := [(xa, .inr (11, [.ref x0, .int (nI x1), .ref x2, .int (nI x3), .ref x4, .ref x5, .ref x6, .int x7, .ref x8, .int x9, .int x10]))]) (w1 := [(q_72, .inr (4, [.int (nI x3), .int k1, .int k2, .ref b_62]))]) (pl := va_pl L M) hP hD [1] [0] rfl rfl (by decide) (by decide) hk1 hFc hP1 hD1
                  have hP : va_P D vwCl ([(xa, .inr (11, [.ref x0, .int (nI x1), .ref x2, .int (nI x3), .ref x4, .ref x5, .ref x6, .int x7, .ref x8, .int x9, .int x10])), (q_72, .inr (4, [.int (nI x3), .int k1, .int k2, .ref b_62]))] ++ va_pl L M) H_74 := hP
                  have hD : va_D A ([(xa, .inr (11, [.ref x0, .int (nI x1), .ref x2, .int (nI x3), .ref x4, .ref x5, .ref x6, .int x7, .ref x8, .int x9, .int x10])), (q_72, .inr (4, [.int (nI x3), .int k1, .int k2, .ref b_62]))] ++ va_pl L M) := hD
                  have hP : va_P D vwCl (([(xa, .inr (11, [.ref x0, .int (nI x1), .ref x2, .int (nI x3), .ref x4, .ref x5, .ref x6, .int x7, .ref x8, .int x9, .int x10]))] ++ [(q_72, .inr (4, [.int (nI x3), .int k1, .int k2, .ref b_62]))]) ++ va_pl L M) H_74 := hP.part (cx := [(xa, .inr (11, [.ref x0, .int (nI x1), .ref x2, .int (nI x3), .ref x4, .ref x5, .ref x6, .int x7, .ref x8, .int x9, .int x10]))] ++ [(q_72, .inr (4, [.int (nI x3), .int k1, .int k2, .ref b_62]))]) [0, 1] rfl
                  have hD : va_D A (([(xa, .inr (11, [.ref x0, .int (nI x1), .ref x2, .int (nI x3), .ref x4, .ref x5, .ref x6, .int x7, .ref x8, .int x9, .int x10]))] ++ [(q_72, .inr (4, [.int (nI x3), .int k1, .int k2, .ref b_62]))]) ++ va_pl L M) := hD.part (cx := [(xa, .inr (11, [.ref x0, .int (nI x1), .ref x2, .int (nI x3), .ref x4, .ref x5, .ref x6, .int x7, .ref x8, .int x9, .int x10]))] ++ [(q_72, .inr (4, [.int (nI x3), .int k1, .int k2, .ref b_62]))]) [0, 1] (by decide) rfl
                  obtain ⟨K9, L9, M_78, hx9, i_79, hW, hP, hD, hM_80, hfr9, hq9⟩ := adoptE 4 0 hP hD hW (fun K' L' x i => (⟨(nI x3), k1, k2, (some b_62), rfl, iskN.some (hb_68.ext x)⟩ : gd_4 K' L' _))
                  have hF : fr K0 L0 [19] M0 M_78 := hF.adX hX0 hfr9
                  have hX0 := hX0.tr hx9
                  have i_81 := i0.ext hx9
                  have i_82 := i2.ext hx9
                  have i_83 := i4.ext hx9
                  have i_84 := i5.ext hx9
                  have i_85 := i6.ext hx9
                  have i_86 := i8.ext hx9
                  have i_87 := hb_68.ext hx9
                  obtain ⟨K, L, hK9, hL9⟩ : ∃ (K : Kp) (L : List Nat), K = K9 ∧ L = L9 := ⟨_, _, rfl, rfl⟩
                  subst hK9
                  subst hL9
                  have hP : va_P D vwCl ([(xa, .inr (11, [.ref x0, .int (nI x1), .ref x2, .int (nI x3), .ref x4, .ref x5, .ref x6, .int x7, .ref x8, .int x9, .int x10]))] ++ va_pl L M_78) H_74 := hP
                  have hD : va_D A ([(xa, .inr (11, [.ref x0, .int (nI x1), .ref x2, .int (nI x3), .ref x4, .ref x5, .ref x6, .int x7, .ref x8, .int x9, .int x10]))] ++ va_pl L M_78) := hD
                  obtain ⟨f88, hM88, hf88⟩ := hW.open_19 i_82
                  obtain ⟨v90_0, v90_1, v90_2, v90_3, hM90, h90_3⟩ := hW.open_4 i_79
                  refine pg_astq (r := (RX4, TX4, 4)) hx hb hK hP hD hS i_82.1 5 4 hM88 rfl i_79.1 hM90 rfl (inbN x3 40 (by omega) (by omega)) dX11_partner_107 (fun H_89 locs hP hD hS => ?_)
                  obtain ⟨M_91, eM_91⟩ : ∃ M1 : Hp, M1 = va_up M_78 x2 (.inl (cy 19, 40, .inr (.inr (.inr (.inr (va_up f88 ((nI x3) : Int32).toNatClampNeg (some q_72))))))) := ⟨_, rfl⟩
                  have hP : va_P D vwCl ([(xa, .inr (11, [.ref x0, .int (nI x1), .ref x2, .int (nI x3), .ref x4, .ref x5, .ref x6, .int x7, .ref x8, .int x9, .int x10]))] ++ va_pl L M_91) H_89 := by rw [eM_91]; exact hP
                  have hD : va_D A ([(xa, .inr (11, [.ref x0, .int (nI x1), .ref x2, .int (nI x3), .ref x4, .ref x5, .ref x6, .int x7, .ref x8, .int x9, .int x10]))] ++ va_pl L M_91) := by rw [eM_91]; exact hD
                  have hW : WOK cy K L M_91 := by rw [eM_91]; exact hW.up_19 i_82 ⟨_, rfl, (upN hf88 i_79)⟩
                  have hF : fr K0 L0 [19] M0 M_91 := by rw [eM_91]; exact hF.upX hX0 i_82 (by decide)
                  have hM_92 : M_91 x2 = .inl (cy 19, 40, .inr (.inr (.inr (.inr (va_up f88 ((nI x3) : Int32).toNatClampNeg (some q_72)))))) := by rw [eM_91]; exact va_up_self _ _ _
                  have hM_93 : M_91 q_72 = .inr (4, [.int v90_0, .int v90_1, .int v90_2, va_rf v90_3]) := by rw [eM_91, va_up_ne _ _ (i_79.neT i_82 (by decide))]; exact hM90
                  have hf_95 : ∀ j, j < 40 → iskN K L ((va_up f88 ((nI x3) : Int32).toNatClampNeg (some q_72)) j) 4 0 := (upN hf88 i_79)
                  obtain ⟨f_94, ef_94⟩ : ∃ f : Nat → Option Nat, f = va_up f88 ((nI x3) : Int32).toNatClampNeg (some q_72) := ⟨_, rfl⟩
                  rw [← ef_94] at hM_92 hf_95
                  have hk_96 : f_94 ((nI x3) : Int32).toNatClampNeg = some q_72 := by rw [ef_94]; exact va_up_self _ _ _
                  clear ef_94
                  refine lv_aload_n hx hb dX11_partner_108 rfl (lv_at hl 1 rfl) ?_
                  refine lv_dup hx hb dX11_partner_109 rfl ?_
                  refine va_get (D := D) (ci := 11) (v := .int (nI x3)) (C := RX11) (T := TX11) (N := 11) hx hb hg inG11 hown hK hP 0 rfl rfl 3 (by decide) (hg _ wd_338) (fun _ h9 => h9) rfl dX11_partner_110 ?_
                  refine lv_iconst (v := 1) hx hb dX11_partner_113 (by decide) ?_
                  refine lv_iadd hx hb dX11_partner_114 ?_
                  refine lv_topi (fun f_97 ef_97 => ?_)
                  obtain rfl : f_97 = (nI (x3 + 1)) := ef_97.trans (nI_add x3 1)
                  refine va_put (D := D) (ci := 11) (v := .int (nI (x3 + 1))) (ty := .int) (C := RX11) (T := TX11) (N := 11) hx hb hg inG11 tyX11 tyX11_ok nmX11 hown hK hP hD hS 0 rfl rfl 3 (by decide) (hg _ wd_338) (fun _ h9 => h9) rfl (by decide +kernel) rfl rfl (Nat.le_of_ble_eq_true rfl) dX11_partner_115 (fun H_98 locs hP hD hS => ?_)
                  have hP : va_P D vwCl ([(xa, .inr (11, [.ref x0, .int (nI x1), .ref x2, .int (nI (x3 + 1)), .ref x4, .ref x5, .ref x6, .int x7, .ref x8, .int x9, .int x10]))] ++ va_pl L M_91) H_98 := hP
                  have hD : va_D A ([(xa, .inr (11, [.ref x0, .int (nI x1), .ref x2, .int (nI (x3 + 1)), .ref x4, .ref x5, .ref x6, .int x7, .ref x8, .int x9, .int x10]))] ++ va_pl L M_91) := hD
                  refine lv_aload_n hx hb dX11_partner_118 rfl (lv_at hl 1 rfl) ?_
                  refine lv_aload_n hx hb dX11_partner_119 rfl (lv_at hl 1 rfl) ?_
                  refine va_get (D := D) (ci := 11) (v := .int (nI (x3 + 1))) (C := RX11) (T := TX11) (N := 11) hx hb hg inG11 hown hK hP 0 rfl rfl 3 (by decide) (hg _ wd_338) (fun _ h9 => h9) rfl dX11_partner_120 ?_
                  refine lv_iconst (v := 1) hx hb dX11_partner_123 (by decide) ?_
                  refine lv_isub hx hb dX11_partner_124 ?_
                  refine lv_topi (fun f_99 ef_99 => ?_)
                  obtain rfl : f_99 = (nI ((x3 + 1) - 1)) := ef_99.trans (nI_prd (by omega))
                  have hPc := hP.sub (ws' := [(xa, .inr (11, [.ref x0, .int (nI x1), .ref x2, .int (nI (x3 + 1)), .ref x4, .ref x5, .ref x6, .int x7, .ref x8, .int x9, .int x10]))]) [0] rfl
                  have hDc := hD.sub (ws' := [(xa, .inr (11, [.ref x0, .int (nI x1), .ref x2, .int (nI (x3 + 1)), .ref x4, .ref x5, .ref x6, .int x7, .ref x8, .int x9, .int x10]))]) [0] (by decide) rfl
                  have hKc := hK.sub (tys' := []) [] rfl
                  have hFc := va_free (wc := [(xa, .inr (11, [.ref x0, .int (nI x1), .ref x2, .int (nI (x3 + 1)), .ref x4, .ref x5, .ref x6, .int x7, .ref x8, .int x9, .int x10]))]) hD hS hA [0] rfl
                  refine va_calli (va_runV (As := [.int (nI ((x3 + 1) - 1))]) (rest := []) ⟨hx, hb, hml, hown, hg⟩ (k_accept l D H_98.size xa x0 (nI x1) x2 (nI (x3 + 1)) x4 x5 x6 x7 x8 x9 x10 (nI ((x3 + 1) - 1))) (cwV 1 hg (gV wd_356 wd_357 wd_358 wd_3 wd_359) rfl rfl rfl (by decide +kernel) ⟨(Nat.le_trans (Nat.le_of_ble_eq_true rfl) hRf), (Nat.le_trans (Nat.le_of_ble_eq_true rfl) hRl)⟩) ⟨Pr.blind, va_recv hK hP (ci := 11) (q0 := 0) rfl rfl, fun U hU hW => ⟨rfl, Pr.at hPc hKc hDc hN hU hW⟩⟩ rfl rfl hl.1 rfl (lv_room (Nat.le_of_ble_eq_true rfl)) dX11_partner_125 ⟨(Nat.le_trans (Nat.le_of_ble_eq_true rfl) hRc), (Nat.le_trans (Nat.le_of_ble_eq_true rfl) hRs)⟩) hS (fun q _ h => hFc q h) hFc (fun r_101 M_102 t H_100 locs ht hvm hw hB hz1 hk1 hS => ?_)
                  have hp_103 := hw
                  obtain ⟨hP1, hK1, hD1⟩ := hB
                  rw [ht] at hP1
                  obtain ⟨hP, hD⟩ := va_joinQ (X := [(xa, .inr (11, [.ref x0, .int (nI x1), .ref x2, .int (nI (x3 + 1)), .ref x4, .ref x5, .ref x6, .int x7, .ref x8, .int x9, .int x10]))]) (cx := [(xa, .inr (11, [.ref x0, .int (nI x1), .ref x2, .int (nI (x3 + 1)), .ref x4, .ref x5, .ref x6, .int x7, .ref x8, .int x9, .int x10]))]) (wr := []) (w1 := [(xa, .inr (11, [.ref x0, .int (nI x1), .ref x2, .int (nI (x3 + 1)), .ref x4, .ref x5, .ref x6, .int x7, .ref x8, .int 0, .int (-1)]))]) (pl := va_pl L M_91) hP hD [0] [] rfl rfl (by decide) (by decide) hk1 hFc hP1 hD1
                  have hP : va_P D vwCl ([(xa, .inr (11, [.ref x0, .int (nI x1), .ref x2, .int (nI (x3 + 1)), .ref x4, .ref x5, .ref x6, .int x7, .ref x8, .int 0, .int (-1)]))] ++ va_pl L M_91) H_100 := hP
                  have hD : va_D A ([(xa, .inr (11, [.ref x0, .int (nI x1), .ref x2, .int (nI (x3 + 1)), .ref x4, .ref x5, .ref x6, .int x7, .ref x8, .int 0, .int (-1)]))] ++ va_pl L M_91) := hD
                  have hq := Eq.symm hp_103
                  subst hq
                  rw [hQ]
                  exact W.iret (v := (nI ((x3 + 1) - 1))) hx hb hr (fun t ht hW9 => ⟨⟨(nI ((x3 + 1) - 1)), (K, L, M_91), rfl, ⟨hX0, hW, hF, trivial⟩, ⟨(x3 + 1), 0, (-1), (by omega), by rw [ht]; exact hP, hD⟩⟩, hS.F ht⟩) hS.2.2 dX11_partner_128
                · have hz := rfl (a := 0)
                  have n_104 : ¬ (x3 < 40) := fun q => c_70 ((iLT (a := x3) (b := 40) (by omega) (by omega)).mpr q)
                  refine lv_aload_n hx hb dX11_partner_78 rfl (lv_at hl 1 rfl) ?_
                  refine lv_bipush (v := 9) hx hb dX11_partner_79 (by decide) ?_
                  have hPc := hP.sub (ws' := [(xa, .inr (11, [.ref x0, .int (nI x1), .ref x2, .int (nI x3), .ref x4, .ref x5, .ref x6, .int x7, .ref x8, .int x9, .int x10]))]) [0] rfl
                  have hDc := hD.sub (ws' := [(xa, .inr (11, [.ref x0, .int (nI x1), .ref x2, .int (nI x3), .ref x4, .ref x5, .ref x6, .int x7, .ref x8, .int x9, .int x10]))]) [0] (by decide) rfl
                  have hKc := hK.sub (tys' := []) [] rfl
                  have hFc := va_free (wc := [(xa, .inr (11, [.ref x0, .int (nI x1), .ref x2, .int (nI x3), .ref x4, .ref x5, .ref x6, .int x7, .ref x8, .int x9, .int x10]))]) hD hS hA [0] rfl
                  refine va_calli (va_runV (As := [.int 9]) (rest := []) ⟨hx, hb, hml, hown, hg⟩ (k_refuse l D H_58.size xa x0 (nI x1) x2 (nI x3) x4 x5 x6 x7 x8 x9 x10 9) (cwV 1 hg (gV wd_344 wd_345 wd_346 wd_3 wd_347) rfl rfl rfl (by decide +kernel) ⟨(Nat.le_trans (Nat.le_of_ble_eq_true rfl) hRf), (Nat.le_trans (Nat.le_of_ble_eq_true rfl) hRl)⟩) ⟨Pr.blind, va_recv hK hP (ci := 11) (q0 := 0) rfl rfl, fun U hU hW => ⟨rfl, Pr.at hPc hKc hDc hN hU hW⟩⟩ rfl rfl hl.1 rfl (lv_room (Nat.le_of_ble_eq_true rfl)) dX11_partner_81 ⟨(Nat.le_trans (Nat.le_of_ble_eq_true rfl) hRc), (Nat.le_trans (Nat.le_of_ble_eq_true rfl) hRs)⟩) hS (fun q _ h => hFc q h) hFc (fun r_106 M_107 t H_105 locs ht hvm hw hB hz1 hk1 hS => ?_)
                  have hp_108 := hw
                  obtain ⟨hP1, hK1, hD1⟩ := hB
                  rw [ht] at hP1
                  obtain ⟨hP, hD⟩ := va_joinQ (X := [(xa, .inr (11, [.ref x0, .int (nI x1), .ref x2, .int (nI x3), .ref x4, .ref x5, .ref x6, .int x7, .ref x8, .int x9, .int x10]))]) (cx := [(xa, .inr (11, [.ref x0, .int (nI x1), .ref x2, .int (nI x3), .ref x4, .ref x5, .ref x6, .int x7, .ref x8, .int x9, .int x10]))]) (wr := []) (w1 := [(xa, .inr (11, [.ref x0, .int (nI x1), .ref x2, .int (nI x3), .ref x4, .ref x5, .ref x6, .int x7, .ref x8, .int 9, .int (-1)]))]) (pl := va_pl L M) hP hD [0] [] rfl rfl (by decide) (by decide) hk1 hFc hP1 hD1
                  have hP : va_P D vwCl ([(xa, .inr (11, [.ref x0, .int (nI x1), .ref x2, .int (nI x3), .ref x4, .ref x5, .ref x6, .int x7, .ref x8, .int 9, .int (-1)]))] ++ va_pl L M) H_105 := hP
                  have hD : va_D A ([(xa, .inr (11, [.ref x0, .int (nI x1), .ref x2, .int (nI x3), .ref x4, .ref x5, .ref x6, .int x7, .ref x8, .int 9, .int (-1)]))] ++ va_pl L M) := hD
                  have hq := Eq.symm hp_108
                  subst hq
                  refine W.widen (k := 1) (n := 4) (Nat.le_of_ble_eq_true rfl) (Nat.le_of_ble_eq_true rfl) ?_
                  rw [hQ]
                  exact W.iret (v := (-1)) hx hb hr (fun t ht hW9 => ⟨⟨(-1), (K, L, M), rfl, ⟨hX0, hW, hF, trivial⟩, ⟨x3, 9, (-1), (by omega), by rw [ht]; exact hP, hD⟩⟩, hS.F ht⟩) hS.2.2 dX11_partner_84
          · have hz := rfl (a := 0)
            refine lv_aload_n hx hb dX11_partner_33 rfl (lv_at hl 0 rfl) ?_
            refine lv_iconst (v := 2) hx hb dX11_partner_34 (by decide) ?_
            have hPc := hP.sub (ws' := [(xa, .inr (11, [.ref x0, .int (nI x1), .ref x2, .int (nI x3), .ref x4, .ref x5, .ref x6, .int x7, .ref x8, .int x9, .int x10]))]) [0] rfl
            have hDc := hD.sub (ws' := [(xa, .inr (11, [.ref x0, .int (nI x1), .ref x2, .int (nI x3), .ref x4, .ref x5, .ref x6, .int x7, .ref x8, .int x9, .int x10]))]) [0] (by decide) rfl
            have hKc := hK.sub (tys' := []) [] rfl
            have hFc := va_free (wc := [(xa, .inr (11, [.ref x0, .int (nI x1), .ref x2, .int (nI x3), .ref x4, .ref x5, .ref x6, .int x7, .ref x8, .int x9, .int x10]))]) hD hS hA [0] rfl
            refine va_calli (va_runV (As := [.int 2]) (rest := []) ⟨hx, hb, hml, hown, hg⟩ (k_refuse l D H_7.size xa x0 (nI x1) x2 (nI x3) x4 x5 x6 x7 x8 x9 x10 2) (cwV 1 hg (gV wd_344 wd_345 wd_346 wd_3 wd_347) rfl rfl rfl (by decide +kernel) ⟨(Nat.le_trans (Nat.le_of_ble_eq_true rfl) hRf), (Nat.le_trans (Nat.le_of_ble_eq_true rfl) hRl)⟩) ⟨Pr.blind, va_recv hK hP (ci := 11) (q0 := 0) rfl rfl, fun U hU hW => ⟨rfl, Pr.at hPc hKc hDc hN hU hW⟩⟩ rfl rfl hl.1 rfl (lv_room (Nat.le_of_ble_eq_true rfl)) dX11_partner_35 ⟨(Nat.le_trans (Nat.le_of_ble_eq_true rfl) hRc), (Nat.le_trans (Nat.le_of_ble_eq_true rfl) hRs)⟩) hS (fun q _ h => hFc q h) hFc (fun r_110 M_111 t H_109 locs ht hvm hw hB hz1 hk1 hS => ?_)
            have hp_112 := hw
            obtain ⟨hP1, hK1, hD1⟩ := hB
            rw [ht] at hP1
            obtain ⟨hP, hD⟩ := va_joinQ (X := [(xa, .inr (11, [.ref x0, .int (nI x1), .ref x2, .int (nI x3), .ref x4, .ref x5, .ref x6, .int x7, .ref x8, .int x9, .int x10]))]) (cx := [(xa, .inr (11, [.ref x0, .int (nI x1), .ref x2, .int (nI x3), .ref x4, .ref x5, .ref x6, .int x7, .ref x8, .int x9, .int x10]))]) (wr := []) (w1 := [(xa, .inr (11, [.ref x0, .int (nI x1), .ref x2, .int (nI x3), .ref x4, .ref x5, .ref x6, .int x7, .ref x8, .int 2, .int (-1)]))]) (pl := va_pl L M) hP hD [0] [] rfl rfl (by decide) (by decide) hk1 hFc hP1 hD1
            have hP : va_P D vwCl ([(xa, .inr (11, [.ref x0, .int (nI x1), .ref x2, .int (nI x3), .ref x4, .ref x5, .ref x6, .int x7, .ref x8, .int 2, .int (-1)]))] ++ va_pl L M) H_109 := hP
            have hD : va_D A ([(xa, .inr (11, [.ref x0, .int (nI x1), .ref x2, .int (nI x3), .ref x4, .ref x5, .ref x6, .int x7, .ref x8, .int 2, .int (-1)]))] ++ va_pl L M) := hD
            have hq := Eq.symm hp_112
            subst hq
            refine W.widen (k := 1) (n := 4) (Nat.le_of_ble_eq_true rfl) (Nat.le_of_ble_eq_true rfl) ?_
            rw [hQ]
            exact W.iret (v := (-1)) hx hb hr (fun t ht hW9 => ⟨⟨(-1), (K, L, M), rfl, ⟨hX0, hW, hF, trivial⟩, ⟨x3, 2, (-1), (by omega), by rw [ht]; exact hP, hD⟩⟩, hS.F ht⟩) hS.2.2 dX11_partner_38
      · have hz := rfl (a := 0)
        refine lv_if_eq (tgt := 39) hx hb dX11_partner_20 (by decide) (fun _ => ?_) (fun c_113 => absurd c_113 (by decide))
        refine lv_iload_n hx hb dX11_partner_39 rfl (lv_at hl 1 rfl) ?_
        refine lv_iconst (v := 5) hx hb dX11_partner_40 (by decide) ?_
        refine lv_icmp_ne (tgt := 52) hx hb dX11_partner_41 (by decide) (fun c_114 => ?_) (fun c_114 => ?_)
        · have hz := rfl (a := 0)
          refine lv_null hx hb dX11_partner_52 ?_
          refine lv_astore_nN (lv' := [(3, .null), (0, .ref xa), (1, .int k1), (2, .int k2)]) hx hb dX11_partner_53 rfl hl (by decide) rfl (fun ls hl => ?_)
          refine lv_iload_n hx hb dX11_partner_54 rfl (lv_at hl 2 rfl) ?_
          refine lv_iconst (v := 5) hx hb dX11_partner_55 (by decide) ?_
          refine lv_icmp_ne (tgt := 69) hx hb dX11_partner_56 (by decide) (fun c_115 => ?_) (fun c_115 => absurd c_115 c_114)
          refine lv_aload_n hx hb dX11_partner_69 rfl (lv_at hl 1 rfl) ?_
          refine va_get (D := D) (ci := 11) (v := .int (nI x3)) (C := RX11) (T := TX11) (N := 11) hx hb hg inG11 hown hK hP 0 rfl rfl 3 (by decide) (hg _ wd_338) (fun _ h9 => h9) rfl dX11_partner_70 ?_
          refine lv_bipush (v := 40) hx hb dX11_partner_73 (by decide) ?_
          refine lv_icmp_lt (tgt := 85) hx hb dX11_partner_75 (by decide) (fun c_116 => ?_) (fun c_116 => ?_)
          · have hz := rfl (a := 0)
            have n_117 : x3 < 40 := (iLT (a := x3) (b := 40) (by omega) (by omega)).mp c_116
            refine lv_aload_n hx hb dX11_partner_85 rfl (lv_at hl 1 rfl) ?_
            refine va_get (D := D) (ci := 11) (v := .ref x2) (C := RX11) (T := TX11) (N := 11) hx hb hg inG11 hown hK hP 0 rfl rfl 2 (by decide) (hg _ wd_339) (fun _ h9 => h9) rfl dX11_partner_86 ?_
            refine lv_aload_n hx hb dX11_partner_89 rfl (lv_at hl 1 rfl) ?_
            refine va_get (D := D) (ci := 11) (v := .int (nI x3)) (C := RX11) (T := TX11) (N := 11) hx hb hg inG11 hown hK hP 0 rfl rfl 3 (by decide) (hg _ wd_338) (fun _ h9 => h9) rfl dX11_partner_90 ?_
            refine va_new (ci := 4) (fs := [.int 0, .int 0, .int 0, .null]) (C := RX4) (T := TX4) (N := 4) hx hb hg inG4 tyX4 tyX4_ok hown (hg _ wd_587) (hg _ wd_588) (hg _ wd_30) hK hP hD hS hA rfl dfX4 (Nat.le_trans (Nat.le_of_ble_eq_true rfl) hRc) (Nat.le_trans (Nat.le_of_ble_eq_true rfl) hRs) dX11_partner_93 (fun q_118 H_119 hP hD hS => ?_)
            have hP : va_P D vwCl ([(xa, .inr (11, [.ref x0, .int (nI x1), .ref x2, .int (nI x3), .ref x4, .ref x5, .ref x6, .int x7, .ref x8, .int x9, .int x10])), (q_118, .inr (4, [.int 0, .int 0, .int 0, .null]))] ++ va_pl L M) H_119 := hP.swap
            have hD : va_D A ([(xa, .inr (11, [.ref x0, .int (nI x1), .ref x2, .int (nI x3), .ref x4, .ref x5, .ref x6, .int x7, .ref x8, .int x9, .int x10])), (q_118, .inr (4, [.int 0, .int 0, .int 0, .null]))] ++ va_pl L M) := hD.swap
            refine W.widen (k := 1) (n := 4) (Nat.le_of_ble_eq_true rfl) (Nat.le_of_ble_eq_true rfl) ?_
            refine lv_dup hx hb dX11_partner_96 rfl ?_
            refine lv_aload_n hx hb dX11_partner_97 rfl (lv_at hl 1 rfl) ?_
            refine va_get (D := D) (ci := 11) (v := .int (nI x3)) (C := RX11) (T := TX11) (N := 11) hx hb hg inG11 hown hK hP 0 rfl rfl 3 (by decide) (hg _ wd_338) (fun _ h9 => h9) rfl dX11_partner_98 ?_
            refine lv_iload_n hx hb dX11_partner_101 rfl (lv_at hl 2 rfl) ?_
            refine lv_iload_n hx hb dX11_partner_102 rfl (lv_at hl 3 rfl) ?_
            refine lv_aload_nN hx hb dX11_partner_103 rfl (lv_at hl 0 rfl) ?_
            have hPc := hP.sub (ws' := [(q_118, .inr (4, [.int 0, .int 0, .int 0, .null]))]) [1] rfl
            have hDc := hD.sub (ws' := [(q_118, .inr (4, [.int 0, .int 0, .int 0, .null]))]) [1] (by decide) rfl
            have hKc := hK.sub (tys' := []) [] rfl
            have hFc := va_free (wc := [(q_118, .inr (4, [.int 0, .int 0, .int 0, .null]))]) hD hS hA [1] rfl
            refine va_callv (va_runI (As := [.int (nI x3), .int k1, .int k2, .null]) (rest := [.ref q_118, .int (nI x3), .ref x2]) ⟨hx, hb, hml, hown, hg⟩ (k_Partner_n l D H_119.size q_118 (nI x3) k1 k2) (cwI 4 hg (gB wd_589) rfl rfl rfl (hg _ wd_30) (hg _ wd_590) (hg _ wd_591) rfl (by decide +kernel) ⟨(Nat.le_trans (Nat.le_of_ble_eq_true rfl) hRf), (Nat.le_trans (Nat.le_of_ble_eq_true rfl) hRl)⟩) ⟨Pr.blind, fun U hU hW => ⟨rfl, Pr.at hPc hKc hDc hN hU hW⟩⟩ rfl rfl hl.1 rfl (lv_room (Nat.le_of_ble_eq_true rfl)) dX11_partner_104 ⟨(Nat.le_trans (Nat.le_of_ble_eq_true rfl) hRc), (Nat.le_trans (Nat.le_of_ble_eq_true rfl) hRs)⟩) hS (fun q _ h => hFc q h) hFc (fun M_122 t H_120 locs ht hvm hw hB hz1 hk1 hS => ?_)
            have hp_123 := hw
            obtain ⟨hP1, hK1, hD1⟩ := hB
            rw [ht] at hP1
            obtain ⟨hP, hD⟩ := va_joinQ (X := [(xa, .inr (11, [.ref x0, .int (nI x1), .ref x2, .int (nI x3), .ref x4, .ref x5, .ref x6, .int x7, .ref x8, .int x9, .int x10])), (q_118, .inr (4, [.int 0, .int 0, .int 0, .null]))]) (cx := [(q_118, .inr (4, [.int 0, .int 0, .int 0, .null]))]) (wr := [(xa, .inr (11, [.ref x0, .int (nI x1), .ref x2, .int (nI x3), .ref x4, .ref x5, .ref x6, .int x7, .ref x8, .int x9, .int x10]))]) (w1 := [(q_118, .inr (4, [.int (nI x3), .int k1, .int k2, .null]))]) (pl := va_pl L M) hP hD [1] [0] rfl rfl (by decide) (by decide) hk1 hFc hP1 hD1
            have hP : va_P D vwCl ([(xa, .inr (11, [.ref x0, .int (nI x1), .ref x2, .int (nI x3), .ref x4, .ref x5, .ref x6, .int x7, .ref x8, .int x9, .int x10])), (q_118, .inr (4, [.int (nI x3), .int k1, .int k2, .null]))] ++ va_pl L M) H_120 := hP
            have hD : va_D A ([(xa, .inr (11, [.ref x0, .int (nI x1), .ref x2, .int (nI x3), .ref x4, .ref x5, .ref x6, .int x7, .ref x8, .int x9, .int x10])), (q_118, .inr (4, [.int (nI x3), .int k1, .int k2, .null]))] ++ va_pl L M) := hD
            have hP : va_P D vwCl (([(xa, .inr (11, [.ref x0, .int (nI x1), .ref x2, .int (nI x3), .ref x4, .ref x5, .ref x6, .int x7, .ref x8, .int x9, .int x10]))] ++ [(q_118, .inr (4, [.int (nI x3), .int k1, .int k2, .null]))]) ++ va_pl L M) H_120 := hP.part (cx := [(xa, .inr (11, [.ref x0, .int (nI x1), .ref x2, .int (nI x3), .ref x4, .ref x5, .ref x6, .int x7, .ref x8, .int x9, .int x10]))] ++ [(q_118, .inr (4, [.int (nI x3), .int k1, .int k2, .null]))]) [0, 1] rfl
            have hD : va_D A (([(xa, .inr (11, [.ref x0, .int (nI x1), .ref x2, .int (nI x3), .ref x4, .ref x5, .ref x6, .int x7, .ref x8, .int x9, .int x10]))] ++ [(q_118, .inr (4, [.int (nI x3), .int k1, .int k2, .null]))]) ++ va_pl L M) := hD.part (cx := [(xa, .inr (11, [.ref x0, .int (nI x1), .ref x2, .int (nI x3), .ref x4, .ref x5, .ref x6, .int x7, .ref x8, .int x9, .int x10]))] ++ [(q_118, .inr (4, [.int (nI x3), .int k1, .int k2, .null]))]) [0, 1] (by decide) rfl
            obtain ⟨K9, L9, M_124, hx9, i_125, hW, hP, hD, hM_126, hfr9, hq9⟩ := adoptE 4 0 hP hD hW (fun K' L' x i => (⟨(nI x3), k1, k2, none, rfl, iskN.none⟩ : gd_4 K' L' _))
            have hF : fr K0 L0 [19] M0 M_124 := hF.adX hX0 hfr9
            have hX0 := hX0.tr hx9
            have i_127 := i0.ext hx9
            have i_128 := i2.ext hx9
            have i_129 := i4.ext hx9
            have i_130 := i5.ext hx9
            have i_131 := i6.ext hx9
            have i_132 := i8.ext hx9
            obtain ⟨K, L, hK9, hL9⟩ : ∃ (K : Kp) (L : List Nat), K = K9 ∧ L = L9 := ⟨_, _, rfl, rfl⟩
            subst hK9
            subst hL9
            have hP : va_P D vwCl ([(xa, .inr (11, [.ref x0, .int (nI x1), .ref x2, .int (nI x3), .ref x4, .ref x5, .ref x6, .int x7, .ref x8, .int x9, .int x10]))] ++ va_pl L M_124) H_120 := hP
            have hD : va_D A ([(xa, .inr (11, [.ref x0, .int (nI x1), .ref x2, .int (nI x3), .ref x4, .ref x5, .ref x6, .int x7, .ref x8, .int x9, .int x10]))] ++ va_pl L M_124) := hD
            obtain ⟨f133, hM133, hf133⟩ := hW.open_19 i_128
            obtain ⟨v135_0, v135_1, v135_2, v135_3, hM135, h135_3⟩ := hW.open_4 i_125
            refine pg_astq (r := (RX4, TX4, 4)) hx hb hK hP hD hS i_128.1 5 4 hM133 rfl i_125.1 hM135 rfl (inbN x3 40 (by omega) (by omega)) dX11_partner_107 (fun H_134 locs hP hD hS => ?_)
            obtain ⟨M_136, eM_136⟩ : ∃ M1 : Hp, M1 = va_up M_124 x2 (.inl (cy 19, 40, .inr (.inr (.inr (.inr (va_up f133 ((nI x3) : Int32).toNatClampNeg (some q_118))))))) := ⟨_, rfl⟩
            have hP : va_P D vwCl ([(xa, .inr (11, [.ref x0, .int (nI x1), .ref x2, .int (nI x3), .ref x4, .ref x5, .ref x6, .int x7, .ref x8, .int x9, .int x10]))] ++ va_pl L M_136) H_134 := by rw [eM_136]; exact hP
            have hD : va_D A ([(xa, .inr (11, [.ref x0, .int (nI x1), .ref x2, .int (nI x3), .ref x4, .ref x5, .ref x6, .int x7, .ref x8, .int x9, .int x10]))] ++ va_pl L M_136) := by rw [eM_136]; exact hD
            have hW : WOK cy K L M_136 := by rw [eM_136]; exact hW.up_19 i_128 ⟨_, rfl, (upN hf133 i_125)⟩
            have hF : fr K0 L0 [19] M0 M_136 := by rw [eM_136]; exact hF.upX hX0 i_128 (by decide)
            have hM_137 : M_136 x2 = .inl (cy 19, 40, .inr (.inr (.inr (.inr (va_up f133 ((nI x3) : Int32).toNatClampNeg (some q_118)))))) := by rw [eM_136]; exact va_up_self _ _ _
            have hM_138 : M_136 q_118 = .inr (4, [.int v135_0, .int v135_1, .int v135_2, va_rf v135_3]) := by rw [eM_136, va_up_ne _ _ (i_125.neT i_128 (by decide))]; exact hM135
            have hf_140 : ∀ j, j < 40 → iskN K L ((va_up f133 ((nI x3) : Int32).toNatClampNeg (some q_118)) j) 4 0 := (upN hf133 i_125)
            obtain ⟨f_139, ef_139⟩ : ∃ f : Nat → Option Nat, f = va_up f133 ((nI x3) : Int32).toNatClampNeg (some q_118) := ⟨_, rfl⟩
            rw [← ef_139] at hM_137 hf_140
            have hk_141 : f_139 ((nI x3) : Int32).toNatClampNeg = some q_118 := by rw [ef_139]; exact va_up_self _ _ _
            clear ef_139
            refine lv_aload_n hx hb dX11_partner_108 rfl (lv_at hl 1 rfl) ?_
            refine lv_dup hx hb dX11_partner_109 rfl ?_
            refine va_get (D := D) (ci := 11) (v := .int (nI x3)) (C := RX11) (T := TX11) (N := 11) hx hb hg inG11 hown hK hP 0 rfl rfl 3 (by decide) (hg _ wd_338) (fun _ h9 => h9) rfl dX11_partner_110 ?_
            refine lv_iconst (v := 1) hx hb dX11_partner_113 (by decide) ?_
            refine lv_iadd hx hb dX11_partner_114 ?_
            refine lv_topi (fun f_142 ef_142 => ?_)
            obtain rfl : f_142 = (nI (x3 + 1)) := ef_142.trans (nI_add x3 1)
            refine va_put (D := D) (ci := 11) (v := .int (nI (x3 + 1))) (ty := .int) (C := RX11) (T := TX11) (N := 11) hx hb hg inG11 tyX11 tyX11_ok nmX11 hown hK hP hD hS 0 rfl rfl 3 (by decide) (hg _ wd_338) (fun _ h9 => h9) rfl (by decide +kernel) rfl rfl (Nat.le_of_ble_eq_true rfl) dX11_partner_115 (fun H_143 locs hP hD hS => ?_)
            have hP : va_P D vwCl ([(xa, .inr (11, [.ref x0, .int (nI x1), .ref x2, .int (nI (x3 + 1)), .ref x4, .ref x5, .ref x6, .int x7, .ref x8, .int x9, .int x10]))] ++ va_pl L M_136) H_143 := hP
            have hD : va_D A ([(xa, .inr (11, [.ref x0, .int (nI x1), .ref x2, .int (nI (x3 + 1)), .ref x4, .ref x5, .ref x6, .int x7, .ref x8, .int x9, .int x10]))] ++ va_pl L M_136) := hD
            refine lv_aload_n hx hb dX11_partner_118 rfl (lv_at hl 1 rfl) ?_
            refine lv_aload_n hx hb dX11_partner_119 rfl (lv_at hl 1 rfl) ?_
            refine va_get (D := D) (ci := 11) (v := .int (nI (x3 + 1))) (C := RX11) (T := TX11) (N := 11) hx hb hg inG11 hown hK hP 0 rfl rfl 3 (by decide) (hg _ wd_338) (fun _ h9 => h9) rfl dX11_partner_120 ?_
            refine lv_iconst (v := 1) hx hb dX11_partner_123 (by decide) ?_
            refine lv_isub hx hb dX11_partner_124 ?_
            refine lv_topi (fun f_144 ef_144 => ?_)
            obtain rfl : f_144 = (nI ((x3 + 1) - 1)) := ef_144.trans (nI_prd (by omega))
            have hPc := hP.sub (ws' := [(xa, .inr (11, [.ref x0, .int (nI x1), .ref x2, .int (nI (x3 + 1)), .ref x4, .ref x5, .ref x6, .int x7, .ref x8, .int x9, .int x10]))]) [0] rfl
            have hDc := hD.sub (ws' := [(xa, .inr (11, [.ref x0, .int (nI x1), .ref x2, .int (nI (x3 + 1)), .ref x4, .ref x5, .ref x6, .int x7, .ref x8, .int x9, .int x10]))]) [0] (by decide) rfl
            have hKc := hK.sub (tys' := []) [] rfl
            have hFc := va_free (wc := [(xa, .inr (11, [.ref x0, .int (nI x1), .ref x2, .int (nI (x3 + 1)), .ref x4, .ref x5, .ref x6, .int x7, .ref x8, .int x9, .int x10]))]) hD hS hA [0] rfl
            refine va_calli (va_runV (As := [.int (nI ((x3 + 1) - 1))]) (rest := []) ⟨hx, hb, hml, hown, hg⟩ (k_accept l D H_143.size xa x0 (nI x1) x2 (nI (x3 + 1)) x4 x5 x6 x7 x8 x9 x10 (nI ((x3 + 1) - 1))) (cwV 1 hg (gV wd_356 wd_357 wd_358 wd_3 wd_359) rfl rfl rfl (by decide +kernel) ⟨(Nat.le_trans (Nat.le_of_ble_eq_true rfl) hRf), (Nat.le_trans (Nat.le_of_ble_eq_true rfl) hRl)⟩) ⟨Pr.blind, va_recv hK hP (ci := 11) (q0 := 0) rfl rfl, fun U hU hW => ⟨rfl, Pr.at hPc hKc hDc hN hU hW⟩⟩ rfl rfl hl.1 rfl (lv_room (Nat.le_of_ble_eq_true rfl)) dX11_partner_125 ⟨(Nat.le_trans (Nat.le_of_ble_eq_true rfl) hRc), (Nat.le_trans (Nat.le_of_ble_eq_true rfl) hRs)⟩) hS (fun q _ h => hFc q h) hFc (fun r_146 M_147 t H_145 locs ht hvm hw hB hz1 hk1 hS => ?_)
            have hp_148 := hw
            obtain ⟨hP1, hK1, hD1⟩ := hB
            rw [ht] at hP1
            obtain ⟨hP, hD⟩ := va_joinQ (X := [(xa, .inr (11, [.ref x0, .int (nI x1), .ref x2, .int (nI (x3 + 1)), .ref x4, .ref x5, .ref x6, .int x7, .ref x8, .int x9, .int x10]))]) (cx := [(xa, .inr (11, [.ref x0, .int (nI x1), .ref x2, .int (nI (x3 + 1)), .ref x4, .ref x5, .ref x6, .int x7, .ref x8, .int x9, .int x10]))]) (wr := []) (w1 := [(xa, .inr (11, [.ref x0, .int (nI x1), .ref x2, .int (nI (x3 + 1)), .ref x4, .ref x5, .ref x6, .int x7, .ref x8, .int 0, .int (-1)]))]) (pl := va_pl L M_136) hP hD [0] [] rfl rfl (by decide) (by decide) hk1 hFc hP1 hD1
            have hP : va_P D vwCl ([(xa, .inr (11, [.ref x0, .int (nI x1), .ref x2, .int (nI (x3 + 1)), .ref x4, .ref x5, .ref x6, .int x7, .ref x8, .int 0, .int (-1)]))] ++ va_pl L M_136) H_145 := hP
            have hD : va_D A ([(xa, .inr (11, [.ref x0, .int (nI x1), .ref x2, .int (nI (x3 + 1)), .ref x4, .ref x5, .ref x6, .int x7, .ref x8, .int 0, .int (-1)]))] ++ va_pl L M_136) := hD
            have hq := Eq.symm hp_148
            subst hq
            rw [hQ]
            exact W.iret (v := (nI ((x3 + 1) - 1))) hx hb hr (fun t ht hW9 => ⟨⟨(nI ((x3 + 1) - 1)), (K, L, M_136), rfl, ⟨hX0, hW, hF, trivial⟩, ⟨(x3 + 1), 0, (-1), (by omega), by rw [ht]; exact hP, hD⟩⟩, hS.F ht⟩) hS.2.2 dX11_partner_128
          · have hz := rfl (a := 0)
            have n_149 : ¬ (x3 < 40) := fun q => c_116 ((iLT (a := x3) (b := 40) (by omega) (by omega)).mpr q)
            refine lv_aload_n hx hb dX11_partner_78 rfl (lv_at hl 1 rfl) ?_
            refine lv_bipush (v := 9) hx hb dX11_partner_79 (by decide) ?_
            have hPc := hP.sub (ws' := [(xa, .inr (11, [.ref x0, .int (nI x1), .ref x2, .int (nI x3), .ref x4, .ref x5, .ref x6, .int x7, .ref x8, .int x9, .int x10]))]) [0] rfl
            have hDc := hD.sub (ws' := [(xa, .inr (11, [.ref x0, .int (nI x1), .ref x2, .int (nI x3), .ref x4, .ref x5, .ref x6, .int x7, .ref x8, .int x9, .int x10]))]) [0] (by decide) rfl
            have hKc := hK.sub (tys' := []) [] rfl
            have hFc := va_free (wc := [(xa, .inr (11, [.ref x0, .int (nI x1), .ref x2, .int (nI x3), .ref x4, .ref x5, .ref x6, .int x7, .ref x8, .int x9, .int x10]))]) hD hS hA [0] rfl
            refine va_calli (va_runV (As := [.int 9]) (rest := []) ⟨hx, hb, hml, hown, hg⟩ (k_refuse l D H_7.size xa x0 (nI x1) x2 (nI x3) x4 x5 x6 x7 x8 x9 x10 9) (cwV 1 hg (gV wd_344 wd_345 wd_346 wd_3 wd_347) rfl rfl rfl (by decide +kernel) ⟨(Nat.le_trans (Nat.le_of_ble_eq_true rfl) hRf), (Nat.le_trans (Nat.le_of_ble_eq_true rfl) hRl)⟩) ⟨Pr.blind, va_recv hK hP (ci := 11) (q0 := 0) rfl rfl, fun U hU hW => ⟨rfl, Pr.at hPc hKc hDc hN hU hW⟩⟩ rfl rfl hl.1 rfl (lv_room (Nat.le_of_ble_eq_true rfl)) dX11_partner_81 ⟨(Nat.le_trans (Nat.le_of_ble_eq_true rfl) hRc), (Nat.le_trans (Nat.le_of_ble_eq_true rfl) hRs)⟩) hS (fun q _ h => hFc q h) hFc (fun r_151 M_152 t H_150 locs ht hvm hw hB hz1 hk1 hS => ?_)
            have hp_153 := hw
            obtain ⟨hP1, hK1, hD1⟩ := hB
            rw [ht] at hP1
            obtain ⟨hP, hD⟩ := va_joinQ (X := [(xa, .inr (11, [.ref x0, .int (nI x1), .ref x2, .int (nI x3), .ref x4, .ref x5, .ref x6, .int x7, .ref x8, .int x9, .int x10]))]) (cx := [(xa, .inr (11, [.ref x0, .int (nI x1), .ref x2, .int (nI x3), .ref x4, .ref x5, .ref x6, .int x7, .ref x8, .int x9, .int x10]))]) (wr := []) (w1 := [(xa, .inr (11, [.ref x0, .int (nI x1), .ref x2, .int (nI x3), .ref x4, .ref x5, .ref x6, .int x7, .ref x8, .int 9, .int (-1)]))]) (pl := va_pl L M) hP hD [0] [] rfl rfl (by decide) (by decide) hk1 hFc hP1 hD1
            have hP : va_P D vwCl ([(xa, .inr (11, [.ref x0, .int (nI x1), .ref x2, .int (nI x3), .ref x4, .ref x5, .ref x6, .int x7, .ref x8, .int 9, .int (-1)]))] ++ va_pl L M) H_150 := hP
            have hD : va_D A ([(xa, .inr (11, [.ref x0, .int (nI x1), .ref x2, .int (nI x3), .ref x4, .ref x5, .ref x6, .int x7, .ref x8, .int 9, .int (-1)]))] ++ va_pl L M) := hD
            have hq := Eq.symm hp_153
            subst hq
            refine W.widen (k := 1) (n := 4) (Nat.le_of_ble_eq_true rfl) (Nat.le_of_ble_eq_true rfl) ?_
            rw [hQ]
            exact W.iret (v := (-1)) hx hb hr (fun t ht hW9 => ⟨⟨(-1), (K, L, M), rfl, ⟨hX0, hW, hF, trivial⟩, ⟨x3, 9, (-1), (by omega), by rw [ht]; exact hP, hD⟩⟩, hS.F ht⟩) hS.2.2 dX11_partner_84
        · have hz := rfl (a := 0)
          refine lv_aload_n hx hb dX11_partner_44 rfl (lv_at hl 0 rfl) ?_
          refine lv_iload_n hx hb dX11_partner_45 rfl (lv_at hl 2 rfl) ?_
          have hPc : va_P D vwCl ([(xa, .inr (11, [.ref x0, .int (nI x1), .ref x2, .int (nI x3), .ref x4, .ref x5, .ref x6, .int x7, .ref x8, .int x9, .int x10]))] ++ va_pl L M) H_7 := hP
          have hDc : va_D A ([(xa, .inr (11, [.ref x0, .int (nI x1), .ref x2, .int (nI x3), .ref x4, .ref x5, .ref x6, .int x7, .ref x8, .int x9, .int x10]))] ++ va_pl L M) := hD
          have hFc : ∀ q, va_A ([(xa, .inr (11, [.ref x0, .int (nI x1), .ref x2, .int (nI x3), .ref x4, .ref x5, .ref x6, .int x7, .ref x8, .int x9, .int x10]))] ++ va_pl L M) H_7.size q → A q := pg_free hDc hS hA
          refine va_callq (va_runV (As := [.int k2]) (rest := []) ⟨hx, hb, hml, hown, hg⟩ (s_X11_houseAt l D cy K L M H_7.size xa x0 x1 x2 x3 x4 x5 x6 x7 x8 x9 x10 k2  hW i0 b1 i2 b3 i4 i5 i6 i8) (cwV 1 hg (gV wd_340 wd_341 wd_342 wd_3 wd_343) rfl rfl rfl (by decide +kernel) ⟨(Nat.le_trans (Nat.le_of_ble_eq_true rfl) hRf), (Nat.le_trans (Nat.le_of_ble_eq_true rfl) hRl)⟩) ⟨PG.blind, va_recv hK hP (ci := 11) (q0 := 0) rfl rfl, fun U hU hW => ⟨rfl, PG.at hPc hK hDc hN hU hW⟩⟩ rfl rfl hl.1 rfl (lv_room (Nat.le_of_ble_eq_true rfl)) dX11_partner_46 ⟨(Nat.le_trans (Nat.le_of_ble_eq_true rfl) hRc), (Nat.le_trans (Nat.le_of_ble_eq_true rfl) hRs)⟩) hS (fun q _ h => hFc q h) hFc (fun r_155 M_156 t H_154 locs ht hvm hw hB hz1 hk1 hS => ?_)
          have hp_157 := hw
          obtain ⟨hP1, hD1⟩ := hB
          rw [ht] at hP1
          have hP : va_P D vwCl ([(xa, .inr (11, [.ref x0, .int (nI x1), .ref x2, .int (nI x3), .ref x4, .ref x5, .ref x6, .int x7, .ref x8, .int x9, .int x10]))] ++ va_pl L M) H_154 := hP1
          have hD : va_D A ([(xa, .inr (11, [.ref x0, .int (nI x1), .ref x2, .int (nI x3), .ref x4, .ref x5, .ref x6, .int x7, .ref x8, .int x9, .int x10]))] ++ va_pl L M) := hD1.mono hFc
          rcases r_155 with _ | b_158
          · have hz := rfl (a := 0)
            refine lv_goto (tgt := 53) hx hb dX11_partner_49 (by decide) ?_
            refine lv_astore_nN (lv' := [(3, .null), (0, .ref xa), (1, .int k1), (2, .int k2)]) hx hb dX11_partner_53 rfl hl (by decide) rfl (fun ls hl => ?_)
            refine lv_iload_n hx hb dX11_partner_54 rfl (lv_at hl 2 rfl) ?_
            refine lv_iconst (v := 5) hx hb dX11_partner_55 (by decide) ?_
            refine lv_icmp_ne (tgt := 69) hx hb dX11_partner_56 (by decide) (fun c_159 => absurd c_114 c_159) (fun c_159 => ?_)
            refine lv_aload_nN hx hb dX11_partner_59 rfl (lv_at hl 0 rfl) ?_
            refine lv_ifnonnullN hx hb dX11_partner_60 ?_
            refine lv_aload_n hx hb dX11_partner_63 rfl (lv_at hl 1 rfl) ?_
            refine lv_iconst (v := 1) hx hb dX11_partner_64 (by decide) ?_
            have hPc := hP.sub (ws' := [(xa, .inr (11, [.ref x0, .int (nI x1), .ref x2, .int (nI x3), .ref x4, .ref x5, .ref x6, .int x7, .ref x8, .int x9, .int x10]))]) [0] rfl
            have hDc := hD.sub (ws' := [(xa, .inr (11, [.ref x0, .int (nI x1), .ref x2, .int (nI x3), .ref x4, .ref x5, .ref x6, .int x7, .ref x8, .int x9, .int x10]))]) [0] (by decide) rfl
            have hKc := hK.sub (tys' := []) [] rfl
            have hFc := va_free (wc := [(xa, .inr (11, [.ref x0, .int (nI x1), .ref x2, .int (nI x3), .ref x4, .ref x5, .ref x6, .int x7, .ref x8, .int x9, .int x10]))]) hD hS hA [0] rfl
            refine va_calli (va_runV (As := [.int 1]) (rest := []) ⟨hx, hb, hml, hown, hg⟩ (k_refuse l D H_154.size xa x0 (nI x1) x2 (nI x3) x4 x5 x6 x7 x8 x9 x10 1) (cwV 1 hg (gV wd_344 wd_345 wd_346 wd_3 wd_347) rfl rfl rfl (by decide +kernel) ⟨(Nat.le_trans (Nat.le_of_ble_eq_true rfl) hRf), (Nat.le_trans (Nat.le_of_ble_eq_true rfl) hRl)⟩) ⟨Pr.blind, va_recv hK hP (ci := 11) (q0 := 0) rfl rfl, fun U hU hW => ⟨rfl, Pr.at hPc hKc hDc hN hU hW⟩⟩ rfl rfl hl.1 rfl (lv_room (Nat.le_of_ble_eq_true rfl)) dX11_partner_65 ⟨(Nat.le_trans (Nat.le_of_ble_eq_true rfl) hRc), (Nat.le_trans (Nat.le_of_ble_eq_true rfl) hRs)⟩) hS (fun q _ h => hFc q h) hFc (fun r_161 M_162 t H_160 locs ht hvm hw hB hz1 hk1 hS => ?_)
            have hp_163 := hw
            obtain ⟨hP1, hK1, hD1⟩ := hB
            rw [ht] at hP1
            obtain ⟨hP, hD⟩ := va_joinQ (X := [(xa, .inr (11, [.ref x0, .int (nI x1), .ref x2, .int (nI x3), .ref x4, .ref x5, .ref x6, .int x7, .ref x8, .int x9, .int x10]))]) (cx := [(xa, .inr (11, [.ref x0, .int (nI x1), .ref x2, .int (nI x3), .ref x4, .ref x5, .ref x6, .int x7, .ref x8, .int x9, .int x10]))]) (wr := []) (w1 := [(xa, .inr (11, [.ref x0, .int (nI x1), .ref x2, .int (nI x3), .ref x4, .ref x5, .ref x6, .int x7, .ref x8, .int 1, .int (-1)]))]) (pl := va_pl L M) hP hD [0] [] rfl rfl (by decide) (by decide) hk1 hFc hP1 hD1
            have hP : va_P D vwCl ([(xa, .inr (11, [.ref x0, .int (nI x1), .ref x2, .int (nI x3), .ref x4, .ref x5, .ref x6, .int x7, .ref x8, .int 1, .int (-1)]))] ++ va_pl L M) H_160 := hP
            have hD : va_D A ([(xa, .inr (11, [.ref x0, .int (nI x1), .ref x2, .int (nI x3), .ref x4, .ref x5, .ref x6, .int x7, .ref x8, .int 1, .int (-1)]))] ++ va_pl L M) := hD
            have hq := Eq.symm hp_163
            subst hq
            refine W.widen (k := 1) (n := 4) (Nat.le_of_ble_eq_true rfl) (Nat.le_of_ble_eq_true rfl) ?_
            rw [hQ]
            exact W.iret (v := (-1)) hx hb hr (fun t ht hW9 => ⟨⟨(-1), (K, L, M), rfl, ⟨hX0, hW, hF, trivial⟩, ⟨x3, 1, (-1), (by omega), by rw [ht]; exact hP, hD⟩⟩, hS.F ht⟩) hS.2.2 dX11_partner_68
          · have hb_164 := hp_157 b_158 rfl
            refine lv_goto (tgt := 53) hx hb dX11_partner_49 (by decide) ?_
            refine lv_astore_n (lv' := [(3, .ref b_158), (0, .ref xa), (1, .int k1), (2, .int k2)]) hx hb dX11_partner_53 rfl hl (by decide) rfl (fun ls hl => ?_)
            refine lv_iload_n hx hb dX11_partner_54 rfl (lv_at hl 2 rfl) ?_
            refine lv_iconst (v := 5) hx hb dX11_partner_55 (by decide) ?_
            refine lv_icmp_ne (tgt := 69) hx hb dX11_partner_56 (by decide) (fun c_165 => absurd c_114 c_165) (fun c_165 => ?_)
            refine lv_aload_n hx hb dX11_partner_59 rfl (lv_at hl 0 rfl) ?_
            refine lv_ifnonnull (tgt := 69) hx hb dX11_partner_60 (by decide) ?_
            refine lv_aload_n hx hb dX11_partner_69 rfl (lv_at hl 1 rfl) ?_
            refine va_get (D := D) (ci := 11) (v := .int (nI x3)) (C := RX11) (T := TX11) (N := 11) hx hb hg inG11 hown hK hP 0 rfl rfl 3 (by decide) (hg _ wd_338) (fun _ h9 => h9) rfl dX11_partner_70 ?_
            refine lv_bipush (v := 40) hx hb dX11_partner_73 (by decide) ?_
            refine lv_icmp_lt (tgt := 85) hx hb dX11_partner_75 (by decide) (fun c_166 => ?_) (fun c_166 => ?_)
            · have hz := rfl (a := 0)
              have n_167 : x3 < 40 := (iLT (a := x3) (b := 40) (by omega) (by omega)).mp c_166
              refine lv_aload_n hx hb dX11_partner_85 rfl (lv_at hl 1 rfl) ?_
              refine va_get (D := D) (ci := 11) (v := .ref x2) (C := RX11) (T := TX11) (N := 11) hx hb hg inG11 hown hK hP 0 rfl rfl 2 (by decide) (hg _ wd_339) (fun _ h9 => h9) rfl dX11_partner_86 ?_
              refine lv_aload_n hx hb dX11_partner_89 rfl (lv_at hl 1 rfl) ?_
              refine va_get (D := D) (ci := 11) (v := .int (nI x3)) (C := RX11) (T := TX11) (N := 11) hx hb hg inG11 hown hK hP 0 rfl rfl 3 (by decide) (hg _ wd_338) (fun _ h9 => h9) rfl dX11_partner_90 ?_
              refine va_new (ci := 4) (fs := [.int 0, .int 0, .int 0, .null]) (C := RX4) (T := TX4) (N := 4) hx hb hg inG4 tyX4 tyX4_ok hown (hg _ wd_587) (hg _ wd_588) (hg _ wd_30) hK hP hD hS hA rfl dfX4 (Nat.le_trans (Nat.le_of_ble_eq_true rfl) hRc) (Nat.le_trans (Nat.le_of_ble_eq_true rfl) hRs) dX11_partner_93 (fun q_168 H_169 hP hD hS => ?_)
              have hP : va_P D vwCl ([(xa, .inr (11, [.ref x0, .int (nI x1), .ref x2, .int (nI x3), .ref x4, .ref x5, .ref x6, .int x7, .ref x8, .int x9, .int x10])), (q_168, .inr (4, [.int 0, .int 0, .int 0, .null]))] ++ va_pl L M) H_169 := hP.swap
              have hD : va_D A ([(xa, .inr (11, [.ref x0, .int (nI x1), .ref x2, .int (nI x3), .ref x4, .ref x5, .ref x6, .int x7, .ref x8, .int x9, .int x10])), (q_168, .inr (4, [.int 0, .int 0, .int 0, .null]))] ++ va_pl L M) := hD.swap
              refine W.widen (k := 1) (n := 4) (Nat.le_of_ble_eq_true rfl) (Nat.le_of_ble_eq_true rfl) ?_
              refine lv_dup hx hb dX11_partner_96 rfl ?_
              refine lv_aload_n hx hb dX11_partner_97 rfl (lv_at hl 1 rfl) ?_
              refine va_get (D := D) (ci := 11) (v := .int (nI x3)) (C := RX11) (T := TX11) (N := 11) hx hb hg inG11 hown hK hP 0 rfl rfl 3 (by decide) (hg _ wd_338) (fun _ h9 => h9) rfl dX11_partner_98 ?_
              refine lv_iload_n hx hb dX11_partner_101 rfl (lv_at hl 2 rfl) ?_
              refine lv_iload_n hx hb dX11_partner_102 rfl (lv_at hl 3 rfl) ?_
              refine lv_aload_n hx hb dX11_partner_103 rfl (lv_at hl 0 rfl) ?_
              have hPc := hP.sub (ws' := [(q_168, .inr (4, [.int 0, .int 0, .int 0, .null]))]) [1] rfl
              have hDc := hD.sub (ws' := [(q_168, .inr (4, [.int 0, .int 0, .int 0, .null]))]) [1] (by decide) rfl
              have hKc := hK.sub (tys' := []) [] rfl
              have hFc := va_free (wc := [(q_168, .inr (4, [.int 0, .int 0, .int 0, .null]))]) hD hS hA [1] rfl
              refine va_callv (va_runI (As := [.int (nI x3), .int k1, .int k2, .ref b_158]) (rest := [.ref q_168, .int (nI x3), .ref x2]) ⟨hx, hb, hml, hown, hg⟩ (k_Partner_r l D H_169.size q_168 (nI x3) k1 k2 b_158) (cwI 4 hg (gB wd_589) rfl rfl rfl (hg _ wd_30) (hg _ wd_590) (hg _ wd_591) rfl (by decide +kernel) ⟨(Nat.le_trans (Nat.le_of_ble_eq_true rfl) hRf), (Nat.le_trans (Nat.le_of_ble_eq_true rfl) hRl)⟩) ⟨Pr.blind, fun U hU hW => ⟨rfl, Pr.at hPc hKc hDc hN hU hW⟩⟩ rfl rfl hl.1 rfl (lv_room (Nat.le_of_ble_eq_true rfl)) dX11_partner_104 ⟨(Nat.le_trans (Nat.le_of_ble_eq_true rfl) hRc), (Nat.le_trans (Nat.le_of_ble_eq_true rfl) hRs)⟩) hS (fun q _ h => hFc q h) hFc (fun M_172 t H_170 locs ht hvm hw hB hz1 hk1 hS => ?_)
              have hp_173 := hw
              obtain ⟨hP1, hK1, hD1⟩ := hB
              rw [ht] at hP1
              obtain ⟨hP, hD⟩ := va_joinQ (X := [(xa, .inr (11, [.ref x0, .int (nI x1), .ref x2, .int (nI x3), .ref x4, .ref x5, .ref x6, .int x7, .ref x8, .int x9, .int x10])), (q_168, .inr (4, [.int 0, .int 0, .int 0, .null]))]) (cx := [(q_168, .inr (4, [.int 0, .int 0, .int 0, .null]))]) (wr := [(xa, .inr (11, [.ref x0, .int (nI x1), .ref x2, .int (nI x3), .ref x4, .ref x5, .ref x6, .int x7, .ref x8, .int x9, .int x10]))]) (w1 := [(q_168, .inr (4, [.int (nI x3), .int k1, .int k2, .ref b_158]))]) (pl := va_pl L M) hP hD [1] [0] rfl rfl (by decide) (by decide) hk1 hFc hP1 hD1
              have hP : va_P D vwCl ([(xa, .inr (11, [.ref x0, .int (nI x1), .ref x2, .int (nI x3), .ref x4, .ref x5, .ref x6, .int x7, .ref x8, .int x9, .int x10])), (q_168, .inr (4, [.int (nI x3), .int k1, .int k2, .ref b_158]))] ++ va_pl L M) H_170 := hP
              have hD : va_D A ([(xa, .inr (11, [.ref x0, .int (nI x1), .ref x2, .int (nI x3), .ref x4, .ref x5, .ref x6, .int x7, .ref x8, .int x9, .int x10])), (q_168, .inr (4, [.int (nI x3), .int k1, .int k2, .ref b_158]))] ++ va_pl L M) := hD
              have hP : va_P D vwCl (([(xa, .inr (11, [.ref x0, .int (nI x1), .ref x2, .int (nI x3), .ref x4, .ref x5, .ref x6, .int x7, .ref x8, .int x9, .int x10]))] ++ [(q_168, .inr (4, [.int (nI x3), .int k1, .int k2, .ref b_158]))]) ++ va_pl L M) H_170 := hP.part (cx := [(xa, .inr (11, [.ref x0, .int (nI x1), .ref x2, .int (nI x3), .ref x4, .ref x5, .ref x6, .int x7, .ref x8, .int x9, .int x10]))] ++ [(q_168, .inr (4, [.int (nI x3), .int k1, .int k2, .ref b_158]))]) [0, 1] rfl
              have hD : va_D A (([(xa, .inr (11, [.ref x0, .int (nI x1), .ref x2, .int (nI x3), .ref x4, .ref x5, .ref x6, .int x7, .ref x8, .int x9, .int x10]))] ++ [(q_168, .inr (4, [.int (nI x3), .int k1, .int k2, .ref b_158]))]) ++ va_pl L M) := hD.part (cx := [(xa, .inr (11, [.ref x0, .int (nI x1), .ref x2, .int (nI x3), .ref x4, .ref x5, .ref x6, .int x7, .ref x8, .int x9, .int x10]))] ++ [(q_168, .inr (4, [.int (nI x3), .int k1, .int k2, .ref b_158]))]) [0, 1] (by decide) rfl
              obtain ⟨K9, L9, M_174, hx9, i_175, hW, hP, hD, hM_176, hfr9, hq9⟩ := adoptE 4 0 hP hD hW (fun K' L' x i => (⟨(nI x3), k1, k2, (some b_158), rfl, iskN.some (hb_164.ext x)⟩ : gd_4 K' L' _))
              have hF : fr K0 L0 [19] M0 M_174 := hF.adX hX0 hfr9
              have hX0 := hX0.tr hx9
              have i_177 := i0.ext hx9
              have i_178 := i2.ext hx9
              have i_179 := i4.ext hx9
              have i_180 := i5.ext hx9
              have i_181 := i6.ext hx9
              have i_182 := i8.ext hx9
              have i_183 := hb_164.ext hx9
              obtain ⟨K, L, hK9, hL9⟩ : ∃ (K : Kp) (L : List Nat), K = K9 ∧ L = L9 := ⟨_, _, rfl, rfl⟩
              subst hK9
              subst hL9
              have hP : va_P D vwCl ([(xa, .inr (11, [.ref x0, .int (nI x1), .ref x2, .int (nI x3), .ref x4, .ref x5, .ref x6, .int x7, .ref x8, .int x9, .int x10]))] ++ va_pl L M_174) H_170 := hP
              have hD : va_D A ([(xa, .inr (11, [.ref x0, .int (nI x1), .ref x2, .int (nI x3), .ref x4, .ref x5, .ref x6, .int x7, .ref x8, .int x9, .int x10]))] ++ va_pl L M_174) := hD
              obtain ⟨f184, hM184, hf184⟩ := hW.open_19 i_178
              obtain ⟨v186_0, v186_1, v186_2, v186_3, hM186, h186_3⟩ := hW.open_4 i_175
              refine pg_astq (r := (RX4, TX4, 4)) hx hb hK hP hD hS i_178.1 5 4 hM184 rfl i_175.1 hM186 rfl (inbN x3 40 (by omega) (by omega)) dX11_partner_107 (fun H_185 locs hP hD hS => ?_)
              obtain ⟨M_187, eM_187⟩ : ∃ M1 : Hp, M1 = va_up M_174 x2 (.inl (cy 19, 40, .inr (.inr (.inr (.inr (va_up f184 ((nI x3) : Int32).toNatClampNeg (some q_168))))))) := ⟨_, rfl⟩
              have hP : va_P D vwCl ([(xa, .inr (11, [.ref x0, .int (nI x1), .ref x2, .int (nI x3), .ref x4, .ref x5, .ref x6, .int x7, .ref x8, .int x9, .int x10]))] ++ va_pl L M_187) H_185 := by rw [eM_187]; exact hP
              have hD : va_D A ([(xa, .inr (11, [.ref x0, .int (nI x1), .ref x2, .int (nI x3), .ref x4, .ref x5, .ref x6, .int x7, .ref x8, .int x9, .int x10]))] ++ va_pl L M_187) := by rw [eM_187]; exact hD
              have hW : WOK cy K L M_187 := by rw [eM_187]; exact hW.up_19 i_178 ⟨_, rfl, (upN hf184 i_175)⟩
              have hF : fr K0 L0 [19] M0 M_187 := by rw [eM_187]; exact hF.upX hX0 i_178 (by decide)
              have hM_188 : M_187 x2 = .inl (cy 19, 40, .inr (.inr (.inr (.inr (va_up f184 ((nI x3) : Int32).toNatClampNeg (some q_168)))))) := by rw [eM_187]; exact va_up_self _ _ _
              have hM_189 : M_187 q_168 = .inr (4, [.int v186_0, .int v186_1, .int v186_2, va_rf v186_3]) := by rw [eM_187, va_up_ne _ _ (i_175.neT i_178 (by decide))]; exact hM186
              have hf_191 : ∀ j, j < 40 → iskN K L ((va_up f184 ((nI x3) : Int32).toNatClampNeg (some q_168)) j) 4 0 := (upN hf184 i_175)
              obtain ⟨f_190, ef_190⟩ : ∃ f : Nat → Option Nat, f = va_up f184 ((nI x3) : Int32).toNatClampNeg (some q_168) := ⟨_, rfl⟩
              rw [← ef_190] at hM_188 hf_191
              have hk_192 : f_190 ((nI x3) : Int32).toNatClampNeg = some q_168 := by rw [ef_190]; exact va_up_self _ _ _
              clear ef_190
              refine lv_aload_n hx hb dX11_partner_108 rfl (lv_at hl 1 rfl) ?_
              refine lv_dup hx hb dX11_partner_109 rfl ?_
              refine va_get (D := D) (ci := 11) (v := .int (nI x3)) (C := RX11) (T := TX11) (N := 11) hx hb hg inG11 hown hK hP 0 rfl rfl 3 (by decide) (hg _ wd_338) (fun _ h9 => h9) rfl dX11_partner_110 ?_
              refine lv_iconst (v := 1) hx hb dX11_partner_113 (by decide) ?_
              refine lv_iadd hx hb dX11_partner_114 ?_
              refine lv_topi (fun f_193 ef_193 => ?_)
              obtain rfl : f_193 = (nI (x3 + 1)) := ef_193.trans (nI_add x3 1)
              refine va_put (D := D) (ci := 11) (v := .int (nI (x3 + 1))) (ty := .int) (C := RX11) (T := TX11) (N := 11) hx hb hg inG11 tyX11 tyX11_ok nmX11 hown hK hP hD hS 0 rfl rfl 3 (by decide) (hg _ wd_338) (fun _ h9 => h9) rfl (by decide +kernel) rfl rfl (Nat.le_of_ble_eq_true rfl) dX11_partner_115 (fun H_194 locs hP hD hS => ?_)
              have hP : va_P D vwCl ([(xa, .inr (11, [.ref x0, .int (nI x1), .ref x2, .int (nI (x3 + 1)), .ref x4, .ref x5, .ref x6, .int x7, .ref x8, .int x9, .int x10]))] ++ va_pl L M_187) H_194 := hP
              have hD : va_D A ([(xa, .inr (11, [.ref x0, .int (nI x1), .ref x2, .int (nI (x3 + 1)), .ref x4, .ref x5, .ref x6, .int x7, .ref x8, .int x9, .int x10]))] ++ va_pl L M_187) := hD
              refine lv_aload_n hx hb dX11_partner_118 rfl (lv_at hl 1 rfl) ?_
              refine lv_aload_n hx hb dX11_partner_119 rfl (lv_at hl 1 rfl) ?_
              refine va_get (D := D) (ci := 11) (v := .int (nI (x3 + 1))) (C := RX11) (T := TX11) (N := 11) hx hb hg inG11 hown hK hP 0 rfl rfl 3 (by decide) (hg _ wd_338) (fun _ h9 => h9) rfl dX11_partner_120 ?_
              refine lv_iconst (v := 1) hx hb dX11_partner_123 (by decide) ?_
              refine lv_isub hx hb dX11_partner_124 ?_
              refine lv_topi (fun f_195 ef_195 => ?_)
              obtain rfl : f_195 = (nI ((x3 + 1) - 1)) := ef_195.trans (nI_prd (by omega))
              have hPc := hP.sub (ws' := [(xa, .inr (11, [.ref x0, .int (nI x1), .ref x2, .int (nI (x3 + 1)), .ref x4, .ref x5, .ref x6, .int x7, .ref x8, .int x9, .int x10]))]) [0] rfl
              have hDc := hD.sub (ws' := [(xa, .inr (11, [.ref x0, .int (nI x1), .ref x2, .int (nI (x3 + 1)), .ref x4, .ref x5, .ref x6, .int x7, .ref x8, .int x9, .int x10]))]) [0] (by decide) rfl
              have hKc := hK.sub (tys' := []) [] rfl
              have hFc := va_free (wc := [(xa, .inr (11, [.ref x0, .int (nI x1), .ref x2, .int (nI (x3 + 1)), .ref x4, .ref x5, .ref x6, .int x7, .ref x8, .int x9, .int x10]))]) hD hS hA [0] rfl
              refine va_calli (va_runV (As := [.int (nI ((x3 + 1) - 1))]) (rest := []) ⟨hx, hb, hml, hown, hg⟩ (k_accept l D H_194.size xa x0 (nI x1) x2 (nI (x3 + 1)) x4 x5 x6 x7 x8 x9 x10 (nI ((x3 + 1) - 1))) (cwV 1 hg (gV wd_356 wd_357 wd_358 wd_3 wd_359) rfl rfl rfl (by decide +kernel) ⟨(Nat.le_trans (Nat.le_of_ble_eq_true rfl) hRf), (Nat.le_trans (Nat.le_of_ble_eq_true rfl) hRl)⟩) ⟨Pr.blind, va_recv hK hP (ci := 11) (q0 := 0) rfl rfl, fun U hU hW => ⟨rfl, Pr.at hPc hKc hDc hN hU hW⟩⟩ rfl rfl hl.1 rfl (lv_room (Nat.le_of_ble_eq_true rfl)) dX11_partner_125 ⟨(Nat.le_trans (Nat.le_of_ble_eq_true rfl) hRc), (Nat.le_trans (Nat.le_of_ble_eq_true rfl) hRs)⟩) hS (fun q _ h => hFc q h) hFc (fun r_197 M_198 t H_196 locs ht hvm hw hB hz1 hk1 hS => ?_)
              have hp_199 := hw
              obtain ⟨hP1, hK1, hD1⟩ := hB
              rw [ht] at hP1
              obtain ⟨hP, hD⟩ := va_joinQ (X := [(xa, .inr (11, [.ref x0, .int (nI x1), .ref x2, .int (nI (x3 + 1)), .ref x4, .ref x5, .ref x6, .int x7, .ref x8, .int x9, .int x10]))]) (cx := [(xa, .inr (11, [.ref x0, .int (nI x1), .ref x2, .int (nI (x3 + 1)), .ref x4, .ref x5, .ref x6, .int x7, .ref x8, .int x9, .int x10]))]) (wr := []) (w1 := [(xa, .inr (11, [.ref x0, .int (nI x1), .ref x2, .int (nI (x3 + 1)), .ref x4, .ref x5, .ref x6, .int x7, .ref x8, .int 0, .int (-1)]))]) (pl := va_pl L M_187) hP hD [0] [] rfl rfl (by decide) (by decide) hk1 hFc hP1 hD1
              have hP : va_P D vwCl ([(xa, .inr (11, [.ref x0, .int (nI x1), .ref x2, .int (nI (x3 + 1)), .ref x4, .ref x5, .ref x6, .int x7, .ref x8, .int 0, .int (-1)]))] ++ va_pl L M_187) H_196 := hP
              have hD : va_D A ([(xa, .inr (11, [.ref x0, .int (nI x1), .ref x2, .int (nI (x3 + 1)), .ref x4, .ref x5, .ref x6, .int x7, .ref x8, .int 0, .int (-1)]))] ++ va_pl L M_187) := hD
              have hq := Eq.symm hp_199
              subst hq
              rw [hQ]
              exact W.iret (v := (nI ((x3 + 1) - 1))) hx hb hr (fun t ht hW9 => ⟨⟨(nI ((x3 + 1) - 1)), (K, L, M_187), rfl, ⟨hX0, hW, hF, trivial⟩, ⟨(x3 + 1), 0, (-1), (by omega), by rw [ht]; exact hP, hD⟩⟩, hS.F ht⟩) hS.2.2 dX11_partner_128
            · have hz := rfl (a := 0)
              have n_200 : ¬ (x3 < 40) := fun q => c_166 ((iLT (a := x3) (b := 40) (by omega) (by omega)).mpr q)
              refine lv_aload_n hx hb dX11_partner_78 rfl (lv_at hl 1 rfl) ?_
              refine lv_bipush (v := 9) hx hb dX11_partner_79 (by decide) ?_
              have hPc := hP.sub (ws' := [(xa, .inr (11, [.ref x0, .int (nI x1), .ref x2, .int (nI x3), .ref x4, .ref x5, .ref x6, .int x7, .ref x8, .int x9, .int x10]))]) [0] rfl
              have hDc := hD.sub (ws' := [(xa, .inr (11, [.ref x0, .int (nI x1), .ref x2, .int (nI x3), .ref x4, .ref x5, .ref x6, .int x7, .ref x8, .int x9, .int x10]))]) [0] (by decide) rfl
              have hKc := hK.sub (tys' := []) [] rfl
              have hFc := va_free (wc := [(xa, .inr (11, [.ref x0, .int (nI x1), .ref x2, .int (nI x3), .ref x4, .ref x5, .ref x6, .int x7, .ref x8, .int x9, .int x10]))]) hD hS hA [0] rfl
              refine va_calli (va_runV (As := [.int 9]) (rest := []) ⟨hx, hb, hml, hown, hg⟩ (k_refuse l D H_154.size xa x0 (nI x1) x2 (nI x3) x4 x5 x6 x7 x8 x9 x10 9) (cwV 1 hg (gV wd_344 wd_345 wd_346 wd_3 wd_347) rfl rfl rfl (by decide +kernel) ⟨(Nat.le_trans (Nat.le_of_ble_eq_true rfl) hRf), (Nat.le_trans (Nat.le_of_ble_eq_true rfl) hRl)⟩) ⟨Pr.blind, va_recv hK hP (ci := 11) (q0 := 0) rfl rfl, fun U hU hW => ⟨rfl, Pr.at hPc hKc hDc hN hU hW⟩⟩ rfl rfl hl.1 rfl (lv_room (Nat.le_of_ble_eq_true rfl)) dX11_partner_81 ⟨(Nat.le_trans (Nat.le_of_ble_eq_true rfl) hRc), (Nat.le_trans (Nat.le_of_ble_eq_true rfl) hRs)⟩) hS (fun q _ h => hFc q h) hFc (fun r_202 M_203 t H_201 locs ht hvm hw hB hz1 hk1 hS => ?_)
              have hp_204 := hw
              obtain ⟨hP1, hK1, hD1⟩ := hB
              rw [ht] at hP1
              obtain ⟨hP, hD⟩ := va_joinQ (X := [(xa, .inr (11, [.ref x0, .int (nI x1), .ref x2, .int (nI x3), .ref x4, .ref x5, .ref x6, .int x7, .ref x8, .int x9, .int x10]))]) (cx := [(xa, .inr (11, [.ref x0, .int (nI x1), .ref x2, .int (nI x3), .ref x4, .ref x5, .ref x6, .int x7, .ref x8, .int x9, .int x10]))]) (wr := []) (w1 := [(xa, .inr (11, [.ref x0, .int (nI x1), .ref x2, .int (nI x3), .ref x4, .ref x5, .ref x6, .int x7, .ref x8, .int 9, .int (-1)]))]) (pl := va_pl L M) hP hD [0] [] rfl rfl (by decide) (by decide) hk1 hFc hP1 hD1
              have hP : va_P D vwCl ([(xa, .inr (11, [.ref x0, .int (nI x1), .ref x2, .int (nI x3), .ref x4, .ref x5, .ref x6, .int x7, .ref x8, .int 9, .int (-1)]))] ++ va_pl L M) H_201 := hP
              have hD : va_D A ([(xa, .inr (11, [.ref x0, .int (nI x1), .ref x2, .int (nI x3), .ref x4, .ref x5, .ref x6, .int x7, .ref x8, .int 9, .int (-1)]))] ++ va_pl L M) := hD
              have hq := Eq.symm hp_204
              subst hq
              refine W.widen (k := 1) (n := 4) (Nat.le_of_ble_eq_true rfl) (Nat.le_of_ble_eq_true rfl) ?_
              rw [hQ]
              exact W.iret (v := (-1)) hx hb hr (fun t ht hW9 => ⟨⟨(-1), (K, L, M), rfl, ⟨hX0, hW, hF, trivial⟩, ⟨x3, 9, (-1), (by omega), by rw [ht]; exact hP, hD⟩⟩, hS.F ht⟩) hS.2.2 dX11_partner_84
    · have hz := rfl (a := 0)
      refine lv_aload_n hx hb dX11_partner_10 rfl (lv_at hl 0 rfl) ?_
      refine lv_iconst (v := 2) hx hb dX11_partner_11 (by decide) ?_
      have hPc := hP.sub (ws' := [(xa, .inr (11, [.ref x0, .int (nI x1), .ref x2, .int (nI x3), .ref x4, .ref x5, .ref x6, .int x7, .ref x8, .int x9, .int x10]))]) [0] rfl
      have hDc := hD.sub (ws' := [(xa, .inr (11, [.ref x0, .int (nI x1), .ref x2, .int (nI x3), .ref x4, .ref x5, .ref x6, .int x7, .ref x8, .int x9, .int x10]))]) [0] (by decide) rfl
      have hKc := hK.sub (tys' := []) [] rfl
      have hFc := va_free (wc := [(xa, .inr (11, [.ref x0, .int (nI x1), .ref x2, .int (nI x3), .ref x4, .ref x5, .ref x6, .int x7, .ref x8, .int x9, .int x10]))]) hD hS hA [0] rfl
      refine va_calli (va_runV (As := [.int 2]) (rest := []) ⟨hx, hb, hml, hown, hg⟩ (k_refuse l D s.heap.size xa x0 (nI x1) x2 (nI x3) x4 x5 x6 x7 x8 x9 x10 2) (cwV 1 hg (gV wd_344 wd_345 wd_346 wd_3 wd_347) rfl rfl rfl (by decide +kernel) ⟨(Nat.le_trans (Nat.le_of_ble_eq_true rfl) hRf), (Nat.le_trans (Nat.le_of_ble_eq_true rfl) hRl)⟩) ⟨Pr.blind, va_recv hK hP (ci := 11) (q0 := 0) rfl rfl, fun U hU hW => ⟨rfl, Pr.at hPc hKc hDc hN hU hW⟩⟩ rfl rfl hl.1 rfl (lv_room (Nat.le_of_ble_eq_true rfl)) dX11_partner_12 ⟨(Nat.le_trans (Nat.le_of_ble_eq_true rfl) hRc), (Nat.le_trans (Nat.le_of_ble_eq_true rfl) hRs)⟩) hS (fun q _ h => hFc q h) hFc (fun r_206 M_207 t H_205 locs ht hvm hw hB hz1 hk1 hS => ?_)
      have hp_208 := hw
      obtain ⟨hP1, hK1, hD1⟩ := hB
      rw [ht] at hP1
      obtain ⟨hP, hD⟩ := va_joinQ (X := [(xa, .inr (11, [.ref x0, .int (nI x1), .ref x2, .int (nI x3), .ref x4, .ref x5, .ref x6, .int x7, .ref x8, .int x9, .int x10]))]) (cx := [(xa, .inr (11, [.ref x0, .int (nI x1), .ref x2, .int (nI x3), .ref x4, .ref x5, .ref x6, .int x7, .ref x8, .int x9, .int x10]))]) (wr := []) (w1 := [(xa, .inr (11, [.ref x0, .int (nI x1), .ref x2, .int (nI x3), .ref x4, .ref x5, .ref x6, .int x7, .ref x8, .int 2, .int (-1)]))]) (pl := va_pl L M) hP hD [0] [] rfl rfl (by decide) (by decide) hk1 hFc hP1 hD1
      have hP : va_P D vwCl ([(xa, .inr (11, [.ref x0, .int (nI x1), .ref x2, .int (nI x3), .ref x4, .ref x5, .ref x6, .int x7, .ref x8, .int 2, .int (-1)]))] ++ va_pl L M) H_205 := hP
      have hD : va_D A ([(xa, .inr (11, [.ref x0, .int (nI x1), .ref x2, .int (nI x3), .ref x4, .ref x5, .ref x6, .int x7, .ref x8, .int 2, .int (-1)]))] ++ va_pl L M) := hD
      have hq := Eq.symm hp_208
      subst hq
      refine W.widen (k := 1) (n := 4) (Nat.le_of_ble_eq_true rfl) (Nat.le_of_ble_eq_true rfl) ?_
      rw [hQ]
      exact W.iret (v := (-1)) hx hb hr (fun t ht hW9 => ⟨⟨(-1), (K, L, M), rfl, ⟨hX0, hW, hF, trivial⟩, ⟨x3, 2, (-1), (by omega), by rw [ht]; exact hP, hD⟩⟩, hS.F ht⟩) hS.2.2 dX11_partner_15
theorem lit7 {x : Int32} (h0 : ¬ x < 0) (h1 : x ≤ 6) : x = 0 ∨ x = 1 ∨ x = 2 ∨ x = 3 ∨ x = 4 ∨ x = 5 ∨ x = 6 := by
  have h2 := Int32.le_iff_toInt_le.mp (Int32.not_lt.mp h0)
  have h3 := Int32.le_iff_toInt_le.mp h1
  have e0 : (0 : Int32).toInt = 0 := rfl
  have e6 : (6 : Int32).toInt = 6 := rfl
  rw [e0] at h2
  rw [e6] at h3
  rcases (show x.toInt = 0 ∨ x.toInt = 1 ∨ x.toInt = 2 ∨ x.toInt = 3 ∨ x.toInt = 4 ∨ x.toInt = 5 ∨ x.toInt = 6 by omega) with q | q | q | q | q | q | q
  · exact Or.inl (Int32.toInt.inj q)
  · exact Or.inr (Or.inl (Int32.toInt.inj q))
  · exact Or.inr (Or.inr (Or.inl (Int32.toInt.inj q)))
  · exact Or.inr (Or.inr (Or.inr (Or.inl (Int32.toInt.inj q))))
  · exact Or.inr (Or.inr (Or.inr (Or.inr (Or.inl (Int32.toInt.inj q)))))
  · exact Or.inr (Or.inr (Or.inr (Or.inr (Or.inr (Or.inl (Int32.toInt.inj q))))))
  · exact Or.inr (Or.inr (Or.inr (Or.inr (Or.inr (Or.inr (Int32.toInt.inj q))))))
set_option maxHeartbeats 4000000 in
set_option maxRecDepth 100000 in
theorem s_X11_leaf (l : Launch) (D : va_G) (cy : Nat → ClassId) (K0 : Kp) (L0 : List Nat) (M0 : Hp) (sz : Nat) (xa : Nat) (x0 : Nat) (x1 : Nat) (x2 : Nat) (x3 : Nat) (x4 : Nat) (x5 : Nat) (x6 : Nat) (x7 : Int32) (x8 : Nat) (x9 : Int32) (x10 : Int32) (k1 : Int32) (k2 : Int32) (k3 : Int32) (k4 : Int32) (hW : WOK cy K0 L0 M0) (i0 : isk K0 L0 x0 17 8) (b1 : x1 ≤ 8) (i2 : isk K0 L0 x2 19 40) (b3 : x3 ≤ 40) (i4 : isk K0 L0 x4 7 0) (i5 : isk K0 L0 x5 5 0) (i6 : isk K0 L0 x6 60 24) (i8 : isk K0 L0 x8 73 25) : Met l yX11_leaf (wsM yX11_leaf cX11_leaf 6 (some .int)) ({ frames := 2, cells := 2, slots := 9, locals := 43 }) (va_Pc [.ref xa, .int k1, .int k2, .int k3, .int k4] (PG D cy [(xa, .inr (11, [.ref x0, .int (nI x1), .ref x2, .int (nI x3), .ref x4, .ref x5, .ref x6, .int x7, .ref x8, .int x9, .int x10]))] L0 M0 sz)) (va_Qi (fun (r : Int32) (u : Kp × List Nat × Hp) => ext K0 L0 u.1 u.2.1 ∧ WOK cy u.1 u.2.1 u.2.2 ∧ fr K0 L0 [10, 18] M0 u.2.2 ∧ fT 10 K0 L0 [1, 2] M0 u.2.2 ∧ (True)) (fun u t => ∃ (w9 : Int32) (w10 : Int32), PQ D [(xa, .inr (11, [.ref x0, .int (nI x1), .ref x2, .int (nI x3), .ref x4, .ref x5, .ref x6, .int x7, .ref x8, .int w9, .int w10]))] u.2.1 u.2.2 (va_A ([(xa, .inr (11, [.ref x0, .int (nI x1), .ref x2, .int (nI x3), .ref x4, .ref x5, .ref x6, .int x7, .ref x8, .int x9, .int x10]))] ++ va_pl L0 M0) sz) t) (va_A ([(xa, .inr (11, [.ref x0, .int (nI x1), .ref x2, .int (nI x3), .ref x4, .ref x5, .ref x6, .int x7, .ref x8, .int x9, .int x10]))] ++ va_pl L0 M0) sz)) 2 9 (va_A ([(xa, .inr (11, [.ref x0, .int (nI x1), .ref x2, .int (nI x3), .ref x4, .ref x5, .ref x6, .int x7, .ref x8, .int x9, .int x10]))] ++ va_pl L0 M0) sz) := by
  refine Met.ofW (cc := cX11_leaf) (maxL := 6) (ret := (some .int)) (by decide) rfl ?_
  intro p e s m args below meth c s₁ B hml hv
  obtain ⟨rfl, hsz, hP, hK, hD0, hN⟩ := hv
  have hx := B.exec
  have hb := B.bytes
  have hr := B.returns
  have hts := atoms_spec (ws := (wsM yX11_leaf cX11_leaf 6 (some .int))) B.pre
  have hg : ∀ w ∈ lw_good, w.before _ s = true := fun w h => hts w (List.mem_cons_of_mem _ h)
  have hown : s.vm.findClass RX11 = some m.cls := findClass_of_methodNamed B.named
  have hlocks := B.notSynchronized
  subst hsz
  have hD := hD0.self (sz := s.heap.size)
  generalize hAe : va_A ([(xa, .inr (11, [.ref x0, .int (nI x1), .ref x2, .int (nI x3), .ref x4, .ref x5, .ref x6, .int x7, .ref x8, .int x9, .int x10]))] ++ va_pl L0 M0) s.heap.size = A at hD ⊢
  have hA : ∀ q : Nat, s.heap.size ≤ q → A q := fun q h => by rw [← hAe]; exact Or.inr h
  have hS : va_S A s.heap s.heap [] := va_S.rf
  have hl := lv_entry ([.ref xa, .int k1, .int k2, .int k3, .int k4]) (n := 6) (Nat.le_of_ble_eq_true rfl)
  rw [lg_entry_eq]
  generalize (lg_sl ([.ref xa, .int k1, .int k2, .int k3, .int k4]) ++ List.replicate (6 - (lg_sl ([.ref xa, .int k1, .int k2, .int k3, .int k4])).length) Slot.unset).toArray = ls at hl ⊢
  refine W.nameQ (fun Q hQ => ?_)
  refine W.nameR (fun R hR => ?_)
  have hRf : 2 ≤ R.frames := by rw [hR]; exact Nat.le_of_ble_eq_true rfl
  have hRl : 43 ≤ R.locals := by rw [hR]; exact Nat.le_of_ble_eq_true rfl
  have hRc : 2 ≤ R.cells := by rw [hR]; exact Nat.le_of_ble_eq_true rfl
  have hRs : 9 ≤ R.slots := by rw [hR]; exact Nat.le_of_ble_eq_true rfl
  obtain ⟨K, L, M, hX0, hF, hT10, hW, hP, hD, i0, i2, i4, i5, i6, i8⟩ : ∃ (K : Kp) (L : List Nat) (M : Hp), ext K0 L0 K L ∧ fr K0 L0 [10, 18] M0 M ∧ fT 10 K0 L0 [1, 2] M0 M ∧ WOK cy K L M ∧ va_P D vwCl ([(xa, .inr (11, [.ref x0, .int (nI x1), .ref x2, .int (nI x3), .ref x4, .ref x5, .ref x6, .int x7, .ref x8, .int x9, .int x10]))] ++ va_pl L M) s.heap ∧ va_D A ([(xa, .inr (11, [.ref x0, .int (nI x1), .ref x2, .int (nI x3), .ref x4, .ref x5, .ref x6, .int x7, .ref x8, .int x9, .int x10]))] ++ va_pl L M) ∧ isk K L x0 17 8 ∧ isk K L x2 19 40 ∧ isk K L x4 7 0 ∧ isk K L x5 5 0 ∧ isk K L x6 60 24 ∧ isk K L x8 73 25 := ⟨K0, L0, M0, ext.rf, fr.rf, fT.rf, hW, hP, hD, i0, i2, i4, i5, i6, i8⟩
  have hl : lv_has ls 6 [(0, .ref xa), (1, .int k1), (2, .int k2), (3, .int k3), (4, .int k4)] := hl
  refine lv_aload_n hx hb dX11_leaf_0 rfl (lv_at hl 0 rfl) ?_
  refine lv_iload_n hx hb dX11_leaf_1 rfl (lv_at hl 1 rfl) ?_
  have hPc : va_P D vwCl ([(xa, .inr (11, [.ref x0, .int (nI x1), .ref x2, .int (nI x3), .ref x4, .ref x5, .ref x6, .int x7, .ref x8, .int x9, .int x10]))] ++ va_pl L M) s.heap := hP
  have hDc : va_D A ([(xa, .inr (11, [.ref x0, .int (nI x1), .ref x2, .int (nI x3), .ref x4, .ref x5, .ref x6, .int x7, .ref x8, .int x9, .int x10]))] ++ va_pl L M) := hD
  have hFc : ∀ q, va_A ([(xa, .inr (11, [.ref x0, .int (nI x1), .ref x2, .int (nI x3), .ref x4, .ref x5, .ref x6, .int x7, .ref x8, .int x9, .int x10]))] ++ va_pl L M) s.heap.size q → A q := pg_free hDc hS hA
  refine va_callq (va_runV (As := [.int k1]) (rest := []) ⟨hx, hb, hml, hown, hg⟩ (s_X11_houseAt l D cy K L M s.heap.size xa x0 x1 x2 x3 x4 x5 x6 x7 x8 x9 x10 k1  hW i0 b1 i2 b3 i4 i5 i6 i8) (cwV 1 hg (gV wd_340 wd_341 wd_342 wd_3 wd_343) rfl rfl rfl (by decide +kernel) ⟨(Nat.le_trans (Nat.le_of_ble_eq_true rfl) hRf), (Nat.le_trans (Nat.le_of_ble_eq_true rfl) hRl)⟩) ⟨PG.blind, va_recv hK hP (ci := 11) (q0 := 0) rfl rfl, fun U hU hW => ⟨rfl, PG.at hPc hK hDc hN hU hW⟩⟩ rfl rfl hl.1 rfl (lv_room (Nat.le_of_ble_eq_true rfl)) dX11_leaf_2 ⟨(Nat.le_trans (Nat.le_of_ble_eq_true rfl) hRc), (Nat.le_trans (Nat.le_of_ble_eq_true rfl) hRs)⟩) hS (fun q _ h => hFc q h) hFc (fun r_2 M_3 t H_1 locs ht hvm hw hB hz1 hk1 hS => ?_)
  have hp_4 := hw
  obtain ⟨hP1, hD1⟩ := hB
  rw [ht] at hP1
  have hP : va_P D vwCl ([(xa, .inr (11, [.ref x0, .int (nI x1), .ref x2, .int (nI x3), .ref x4, .ref x5, .ref x6, .int x7, .ref x8, .int x9, .int x10]))] ++ va_pl L M) H_1 := hP1
  have hD : va_D A ([(xa, .inr (11, [.ref x0, .int (nI x1), .ref x2, .int (nI x3), .ref x4, .ref x5, .ref x6, .int x7, .ref x8, .int x9, .int x10]))] ++ va_pl L M) := hD1.mono hFc
  rcases r_2 with _ | b_5
  · have hz := rfl (a := 0)
    refine lv_astoreN (lv' := [(5, .null), (0, .ref xa), (1, .int k1), (2, .int k2), (3, .int k3), (4, .int k4)]) hx hb dX11_leaf_5 hl (by decide) rfl (fun ls hl => ?_)
    refine lv_aloadN hx hb dX11_leaf_7 (lv_at hl 0 rfl) ?_
    refine lv_ifnonnullN hx hb dX11_leaf_9 ?_
    refine lv_aload_n hx hb dX11_leaf_12 rfl (lv_at hl 1 rfl) ?_
    refine lv_iconst (v := 1) hx hb dX11_leaf_13 (by decide) ?_
    have hPc := hP.sub (ws' := [(xa, .inr (11, [.ref x0, .int (nI x1), .ref x2, .int (nI x3), .ref x4, .ref x5, .ref x6, .int x7, .ref x8, .int x9, .int x10]))]) [0] rfl
    have hDc := hD.sub (ws' := [(xa, .inr (11, [.ref x0, .int (nI x1), .ref x2, .int (nI x3), .ref x4, .ref x5, .ref x6, .int x7, .ref x8, .int x9, .int x10]))]) [0] (by decide) rfl
    have hKc := hK.sub (tys' := []) [] rfl
    have hFc := va_free (wc := [(xa, .inr (11, [.ref x0, .int (nI x1), .ref x2, .int (nI x3), .ref x4, .ref x5, .ref x6, .int x7, .ref x8, .int x9, .int x10]))]) hD hS hA [0] rfl
    refine va_calli (va_runV (As := [.int 1]) (rest := []) ⟨hx, hb, hml, hown, hg⟩ (k_refuse l D H_1.size xa x0 (nI x1) x2 (nI x3) x4 x5 x6 x7 x8 x9 x10 1) (cwV 1 hg (gV wd_344 wd_345 wd_346 wd_3 wd_347) rfl rfl rfl (by decide +kernel) ⟨(Nat.le_trans (Nat.le_of_ble_eq_true rfl) hRf), (Nat.le_trans (Nat.le_of_ble_eq_true rfl) hRl)⟩) ⟨Pr.blind, va_recv hK hP (ci := 11) (q0 := 0) rfl rfl, fun U hU hW => ⟨rfl, Pr.at hPc hKc hDc hN hU hW⟩⟩ rfl rfl hl.1 rfl (lv_room (Nat.le_of_ble_eq_true rfl)) dX11_leaf_14 ⟨(Nat.le_trans (Nat.le_of_ble_eq_true rfl) hRc), (Nat.le_trans (Nat.le_of_ble_eq_true rfl) hRs)⟩) hS (fun q _ h => hFc q h) hFc (fun r_7 M_8 t H_6 locs ht hvm hw hB hz1 hk1 hS => ?_)
    have hp_9 := hw
    obtain ⟨hP1, hK1, hD1⟩ := hB
    rw [ht] at hP1
    obtain ⟨hP, hD⟩ := va_joinQ (X := [(xa, .inr (11, [.ref x0, .int (nI x1), .ref x2, .int (nI x3), .ref x4, .ref x5, .ref x6, .int x7, .ref x8, .int x9, .int x10]))]) (cx := [(xa, .inr (11, [.ref x0, .int (nI x1), .ref x2, .int (nI x3), .ref x4, .ref x5, .ref x6, .int x7, .ref x8, .int x9, .int x10]))]) (wr := []) (w1 := [(xa, .inr (11, [.ref x0, .int (nI x1), .ref x2, .int (nI x3), .ref x4, .ref x5, .ref x6, .int x7, .ref x8, .int 1, .int (-1)]))]) (pl := va_pl L M) hP hD [0] [] rfl rfl (by decide) (by decide) hk1 hFc hP1 hD1
    have hP : va_P D vwCl ([(xa, .inr (11, [.ref x0, .int (nI x1), .ref x2, .int (nI x3), .ref x4, .ref x5, .ref x6, .int x7, .ref x8, .int 1, .int (-1)]))] ++ va_pl L M) H_6 := hP
    have hD : va_D A ([(xa, .inr (11, [.ref x0, .int (nI x1), .ref x2, .int (nI x3), .ref x4, .ref x5, .ref x6, .int x7, .ref x8, .int 1, .int (-1)]))] ++ va_pl L M) := hD
    have hq := Eq.symm hp_9
    subst hq
    refine W.widen (k := 2) (n := 9) (Nat.le_of_ble_eq_true rfl) (Nat.le_of_ble_eq_true rfl) ?_
    rw [hQ]
    exact W.iret (v := (-1)) hx hb hr (fun t ht hW9 => ⟨⟨(-1), (K, L, M), rfl, ⟨hX0, hW, hF, hT10, trivial⟩, ⟨1, (-1), by rw [ht]; exact hP, hD⟩⟩, hS.F ht⟩) hS.2.2 dX11_leaf_17
  · have hb_10 := hp_4 b_5 rfl
    refine lv_astore (lv' := [(5, .ref b_5), (0, .ref xa), (1, .int k1), (2, .int k2), (3, .int k3), (4, .int k4)]) hx hb dX11_leaf_5 hl (by decide) rfl (fun ls hl => ?_)
    refine lv_aload hx hb dX11_leaf_7 (lv_at hl 0 rfl) ?_
    refine lv_ifnonnull (tgt := 18) hx hb dX11_leaf_9 (by decide) ?_
    refine lv_iload_n hx hb dX11_leaf_18 rfl (lv_at hl 4 rfl) ?_
    refine lv_if_lt (tgt := 39) hx hb dX11_leaf_19 (by decide) (fun c_11 => ?_) (fun c_11 => ?_)
    · have hz := rfl (a := 0)
      refine lv_aload_n hx hb dX11_leaf_39 rfl (lv_at hl 1 rfl) ?_
      refine lv_iconst (v := 2) hx hb dX11_leaf_40 (by decide) ?_
      have hPc := hP.sub (ws' := [(xa, .inr (11, [.ref x0, .int (nI x1), .ref x2, .int (nI x3), .ref x4, .ref x5, .ref x6, .int x7, .ref x8, .int x9, .int x10]))]) [0] rfl
      have hDc := hD.sub (ws' := [(xa, .inr (11, [.ref x0, .int (nI x1), .ref x2, .int (nI x3), .ref x4, .ref x5, .ref x6, .int x7, .ref x8, .int x9, .int x10]))]) [0] (by decide) rfl
      have hKc := hK.sub (tys' := []) [] rfl
      have hFc := va_free (wc := [(xa, .inr (11, [.ref x0, .int (nI x1), .ref x2, .int (nI x3), .ref x4, .ref x5, .ref x6, .int x7, .ref x8, .int x9, .int x10]))]) hD hS hA [0] rfl
      refine va_calli (va_runV (As := [.int 2]) (rest := []) ⟨hx, hb, hml, hown, hg⟩ (k_refuse l D H_1.size xa x0 (nI x1) x2 (nI x3) x4 x5 x6 x7 x8 x9 x10 2) (cwV 1 hg (gV wd_344 wd_345 wd_346 wd_3 wd_347) rfl rfl rfl (by decide +kernel) ⟨(Nat.le_trans (Nat.le_of_ble_eq_true rfl) hRf), (Nat.le_trans (Nat.le_of_ble_eq_true rfl) hRl)⟩) ⟨Pr.blind, va_recv hK hP (ci := 11) (q0 := 0) rfl rfl, fun U hU hW => ⟨rfl, Pr.at hPc hKc hDc hN hU hW⟩⟩ rfl rfl hl.1 rfl (lv_room (Nat.le_of_ble_eq_true rfl)) dX11_leaf_41 ⟨(Nat.le_trans (Nat.le_of_ble_eq_true rfl) hRc), (Nat.le_trans (Nat.le_of_ble_eq_true rfl) hRs)⟩) hS (fun q _ h => hFc q h) hFc (fun r_13 M_14 t H_12 locs ht hvm hw hB hz1 hk1 hS => ?_)
      have hp_15 := hw
      obtain ⟨hP1, hK1, hD1⟩ := hB
      rw [ht] at hP1
      obtain ⟨hP, hD⟩ := va_joinQ (X := [(xa, .inr (11, [.ref x0, .int (nI x1), .ref x2, .int (nI x3), .ref x4, .ref x5, .ref x6, .int x7, .ref x8, .int x9, .int x10]))]) (cx := [(xa, .inr (11, [.ref x0, .int (nI x1), .ref x2, .int (nI x3), .ref x4, .ref x5, .ref x6, .int x7, .ref x8, .int x9, .int x10]))]) (wr := []) (w1 := [(xa, .inr (11, [.ref x0, .int (nI x1), .ref x2, .int (nI x3), .ref x4, .ref x5, .ref x6, .int x7, .ref x8, .int 2, .int (-1)]))]) (pl := va_pl L M) hP hD [0] [] rfl rfl (by decide) (by decide) hk1 hFc hP1 hD1
      have hP : va_P D vwCl ([(xa, .inr (11, [.ref x0, .int (nI x1), .ref x2, .int (nI x3), .ref x4, .ref x5, .ref x6, .int x7, .ref x8, .int 2, .int (-1)]))] ++ va_pl L M) H_12 := hP
      have hD : va_D A ([(xa, .inr (11, [.ref x0, .int (nI x1), .ref x2, .int (nI x3), .ref x4, .ref x5, .ref x6, .int x7, .ref x8, .int 2, .int (-1)]))] ++ va_pl L M) := hD
      have hq := Eq.symm hp_15
      subst hq
      refine W.widen (k := 2) (n := 9) (Nat.le_of_ble_eq_true rfl) (Nat.le_of_ble_eq_true rfl) ?_
      rw [hQ]
      exact W.iret (v := (-1)) hx hb hr (fun t ht hW9 => ⟨⟨(-1), (K, L, M), rfl, ⟨hX0, hW, hF, hT10, trivial⟩, ⟨2, (-1), by rw [ht]; exact hP, hD⟩⟩, hS.F ht⟩) hS.2.2 dX11_leaf_44
    · have hz := rfl (a := 0)
      refine lv_iload_n hx hb dX11_leaf_22 rfl (lv_at hl 4 rfl) ?_
      refine lv_iconst (v := 3) hx hb dX11_leaf_23 (by decide) ?_
      refine lv_icmp_ge (tgt := 39) hx hb dX11_leaf_24 (by decide) (fun c_16 => ?_) (fun c_16 => ?_)
      · have hz := rfl (a := 0)
        refine lv_aload_n hx hb dX11_leaf_39 rfl (lv_at hl 1 rfl) ?_
        refine lv_iconst (v := 2) hx hb dX11_leaf_40 (by decide) ?_
        have hPc := hP.sub (ws' := [(xa, .inr (11, [.ref x0, .int (nI x1), .ref x2, .int (nI x3), .ref x4, .ref x5, .ref x6, .int x7, .ref x8, .int x9, .int x10]))]) [0] rfl
        have hDc := hD.sub (ws' := [(xa, .inr (11, [.ref x0, .int (nI x1), .ref x2, .int (nI x3), .ref x4, .ref x5, .ref x6, .int x7, .ref x8, .int x9, .int x10]))]) [0] (by decide) rfl
        have hKc := hK.sub (tys' := []) [] rfl
        have hFc := va_free (wc := [(xa, .inr (11, [.ref x0, .int (nI x1), .ref x2, .int (nI x3), .ref x4, .ref x5, .ref x6, .int x7, .ref x8, .int x9, .int x10]))]) hD hS hA [0] rfl
        refine va_calli (va_runV (As := [.int 2]) (rest := []) ⟨hx, hb, hml, hown, hg⟩ (k_refuse l D H_1.size xa x0 (nI x1) x2 (nI x3) x4 x5 x6 x7 x8 x9 x10 2) (cwV 1 hg (gV wd_344 wd_345 wd_346 wd_3 wd_347) rfl rfl rfl (by decide +kernel) ⟨(Nat.le_trans (Nat.le_of_ble_eq_true rfl) hRf), (Nat.le_trans (Nat.le_of_ble_eq_true rfl) hRl)⟩) ⟨Pr.blind, va_recv hK hP (ci := 11) (q0 := 0) rfl rfl, fun U hU hW => ⟨rfl, Pr.at hPc hKc hDc hN hU hW⟩⟩ rfl rfl hl.1 rfl (lv_room (Nat.le_of_ble_eq_true rfl)) dX11_leaf_41 ⟨(Nat.le_trans (Nat.le_of_ble_eq_true rfl) hRc), (Nat.le_trans (Nat.le_of_ble_eq_true rfl) hRs)⟩) hS (fun q _ h => hFc q h) hFc (fun r_18 M_19 t H_17 locs ht hvm hw hB hz1 hk1 hS => ?_)
        have hp_20 := hw
        obtain ⟨hP1, hK1, hD1⟩ := hB
        rw [ht] at hP1
        obtain ⟨hP, hD⟩ := va_joinQ (X := [(xa, .inr (11, [.ref x0, .int (nI x1), .ref x2, .int (nI x3), .ref x4, .ref x5, .ref x6, .int x7, .ref x8, .int x9, .int x10]))]) (cx := [(xa, .inr (11, [.ref x0, .int (nI x1), .ref x2, .int (nI x3), .ref x4, .ref x5, .ref x6, .int x7, .ref x8, .int x9, .int x10]))]) (wr := []) (w1 := [(xa, .inr (11, [.ref x0, .int (nI x1), .ref x2, .int (nI x3), .ref x4, .ref x5, .ref x6, .int x7, .ref x8, .int 2, .int (-1)]))]) (pl := va_pl L M) hP hD [0] [] rfl rfl (by decide) (by decide) hk1 hFc hP1 hD1
        have hP : va_P D vwCl ([(xa, .inr (11, [.ref x0, .int (nI x1), .ref x2, .int (nI x3), .ref x4, .ref x5, .ref x6, .int x7, .ref x8, .int 2, .int (-1)]))] ++ va_pl L M) H_17 := hP
        have hD : va_D A ([(xa, .inr (11, [.ref x0, .int (nI x1), .ref x2, .int (nI x3), .ref x4, .ref x5, .ref x6, .int x7, .ref x8, .int 2, .int (-1)]))] ++ va_pl L M) := hD
        have hq := Eq.symm hp_20
        subst hq
        refine W.widen (k := 2) (n := 9) (Nat.le_of_ble_eq_true rfl) (Nat.le_of_ble_eq_true rfl) ?_
        rw [hQ]
        exact W.iret (v := (-1)) hx hb hr (fun t ht hW9 => ⟨⟨(-1), (K, L, M), rfl, ⟨hX0, hW, hF, hT10, trivial⟩, ⟨2, (-1), by rw [ht]; exact hP, hD⟩⟩, hS.F ht⟩) hS.2.2 dX11_leaf_44
      · have hz := rfl (a := 0)
        refine lv_iload hx hb dX11_leaf_27 (lv_at hl 5 rfl) ?_
        refine lv_if_lt (tgt := 39) hx hb dX11_leaf_29 (by decide) (fun c_21 => ?_) (fun c_21 => ?_)
        · have hz := rfl (a := 0)
          refine lv_aload_n hx hb dX11_leaf_39 rfl (lv_at hl 1 rfl) ?_
          refine lv_iconst (v := 2) hx hb dX11_leaf_40 (by decide) ?_
          have hPc := hP.sub (ws' := [(xa, .inr (11, [.ref x0, .int (nI x1), .ref x2, .int (nI x3), .ref x4, .ref x5, .ref x6, .int x7, .ref x8, .int x9, .int x10]))]) [0] rfl
          have hDc := hD.sub (ws' := [(xa, .inr (11, [.ref x0, .int (nI x1), .ref x2, .int (nI x3), .ref x4, .ref x5, .ref x6, .int x7, .ref x8, .int x9, .int x10]))]) [0] (by decide) rfl
          have hKc := hK.sub (tys' := []) [] rfl
          have hFc := va_free (wc := [(xa, .inr (11, [.ref x0, .int (nI x1), .ref x2, .int (nI x3), .ref x4, .ref x5, .ref x6, .int x7, .ref x8, .int x9, .int x10]))]) hD hS hA [0] rfl
          refine va_calli (va_runV (As := [.int 2]) (rest := []) ⟨hx, hb, hml, hown, hg⟩ (k_refuse l D H_1.size xa x0 (nI x1) x2 (nI x3) x4 x5 x6 x7 x8 x9 x10 2) (cwV 1 hg (gV wd_344 wd_345 wd_346 wd_3 wd_347) rfl rfl rfl (by decide +kernel) ⟨(Nat.le_trans (Nat.le_of_ble_eq_true rfl) hRf), (Nat.le_trans (Nat.le_of_ble_eq_true rfl) hRl)⟩) ⟨Pr.blind, va_recv hK hP (ci := 11) (q0 := 0) rfl rfl, fun U hU hW => ⟨rfl, Pr.at hPc hKc hDc hN hU hW⟩⟩ rfl rfl hl.1 rfl (lv_room (Nat.le_of_ble_eq_true rfl)) dX11_leaf_41 ⟨(Nat.le_trans (Nat.le_of_ble_eq_true rfl) hRc), (Nat.le_trans (Nat.le_of_ble_eq_true rfl) hRs)⟩) hS (fun q _ h => hFc q h) hFc (fun r_23 M_24 t H_22 locs ht hvm hw hB hz1 hk1 hS => ?_)
          have hp_25 := hw
          obtain ⟨hP1, hK1, hD1⟩ := hB
          rw [ht] at hP1
          obtain ⟨hP, hD⟩ := va_joinQ (X := [(xa, .inr (11, [.ref x0, .int (nI x1), .ref x2, .int (nI x3), .ref x4, .ref x5, .ref x6, .int x7, .ref x8, .int x9, .int x10]))]) (cx := [(xa, .inr (11, [.ref x0, .int (nI x1), .ref x2, .int (nI x3), .ref x4, .ref x5, .ref x6, .int x7, .ref x8, .int x9, .int x10]))]) (wr := []) (w1 := [(xa, .inr (11, [.ref x0, .int (nI x1), .ref x2, .int (nI x3), .ref x4, .ref x5, .ref x6, .int x7, .ref x8, .int 2, .int (-1)]))]) (pl := va_pl L M) hP hD [0] [] rfl rfl (by decide) (by decide) hk1 hFc hP1 hD1
          have hP : va_P D vwCl ([(xa, .inr (11, [.ref x0, .int (nI x1), .ref x2, .int (nI x3), .ref x4, .ref x5, .ref x6, .int x7, .ref x8, .int 2, .int (-1)]))] ++ va_pl L M) H_22 := hP
          have hD : va_D A ([(xa, .inr (11, [.ref x0, .int (nI x1), .ref x2, .int (nI x3), .ref x4, .ref x5, .ref x6, .int x7, .ref x8, .int 2, .int (-1)]))] ++ va_pl L M) := hD
          have hq := Eq.symm hp_25
          subst hq
          refine W.widen (k := 2) (n := 9) (Nat.le_of_ble_eq_true rfl) (Nat.le_of_ble_eq_true rfl) ?_
          rw [hQ]
          exact W.iret (v := (-1)) hx hb hr (fun t ht hW9 => ⟨⟨(-1), (K, L, M), rfl, ⟨hX0, hW, hF, hT10, trivial⟩, ⟨2, (-1), by rw [ht]; exact hP, hD⟩⟩, hS.F ht⟩) hS.2.2 dX11_leaf_44
        · have hz := rfl (a := 0)
          refine lv_iload hx hb dX11_leaf_32 (lv_at hl 5 rfl) ?_
          refine lv_bipush (v := 6) hx hb dX11_leaf_34 (by decide) ?_
          refine lv_icmp_le (tgt := 45) hx hb dX11_leaf_36 (by decide) (fun c_26 => ?_) (fun c_26 => ?_)
          · have hz := rfl (a := 0)
            refine lv_aload hx hb dX11_leaf_45 (lv_at hl 0 rfl) ?_
            refine lv_iload_n hx hb dX11_leaf_47 rfl (lv_at hl 3 rfl) ?_
            obtain ⟨v27_0, v27_1, v27_2, v27_3, v27_4, v27_5, v27_6, v27_7, v27_8, v27_9, v27_10, v27_11, v27_12, v27_13, v27_14, v27_15, v27_16, v27_17, v27_18, v27_19, hM27, h27_3, h27_4, h27_5, h27_6, h27_7, h27_8, h27_9, h27_10, h27_11, h27_12, h27_13, h27_16, h27_17, h27_18, h27_19⟩ := hW.open_2 hb_10
            have hPc : va_P D vwCl ([] ++ va_pl L M) H_1 := hP.part (cx := []) [] rfl
            have hDc : va_D A ([] ++ va_pl L M) := hD.part (cx := []) [] (by decide) rfl
            have hFc : ∀ q, va_A ([] ++ va_pl L M) H_1.size q → A q := pg_free hDc hS hA
            refine va_calli (va_runV (As := [.int k2]) (rest := []) ⟨hx, hb, hml, hown, hg⟩ (s_X2_isFree l D cy K L M H_1.size b_5 k2  hW hb_10) (cwV 1 hg (gV wd_361 wd_362 wd_363 wd_57 wd_364) rfl rfl rfl (by decide +kernel) ⟨(Nat.le_trans (Nat.le_of_ble_eq_true rfl) hRf), (Nat.le_trans (Nat.le_of_ble_eq_true rfl) hRl)⟩) ⟨PG.blind, pg_recv hK hP hb_10.1 hM27 rfl, fun U hU hW => ⟨rfl, PG.at hPc hK hDc hN hU hW⟩⟩ rfl rfl hl.1 rfl (lv_room (Nat.le_of_ble_eq_true rfl)) dX11_leaf_48 ⟨(Nat.le_trans (Nat.le_of_ble_eq_true rfl) hRc), (Nat.le_trans (Nat.le_of_ble_eq_true rfl) hRs)⟩) hS (fun q _ h => hFc q h) hFc (fun r_29 M_30 t H_28 locs ht hvm hw hB hz1 hk1 hS => ?_)
            have hp_31 := hw
            obtain ⟨hP1, hD1⟩ := hB
            rw [ht] at hP1
            obtain ⟨hP, hD⟩ := va_joinP (X := [(xa, .inr (11, [.ref x0, .int (nI x1), .ref x2, .int (nI x3), .ref x4, .ref x5, .ref x6, .int x7, .ref x8, .int x9, .int x10]))]) (cx := []) (wr := [(xa, .inr (11, [.ref x0, .int (nI x1), .ref x2, .int (nI x3), .ref x4, .ref x5, .ref x6, .int x7, .ref x8, .int x9, .int x10]))]) (rx := []) (pl := va_pl L M) (pl1 := va_pl L M) hP hD [] [0] rfl rfl (by decide) (by decide) hk1 hFc hP1 hD1
            have hP : va_P D vwCl ([(xa, .inr (11, [.ref x0, .int (nI x1), .ref x2, .int (nI x3), .ref x4, .ref x5, .ref x6, .int x7, .ref x8, .int x9, .int x10]))] ++ va_pl L M) H_28 := hP
            have hD : va_D A ([(xa, .inr (11, [.ref x0, .int (nI x1), .ref x2, .int (nI x3), .ref x4, .ref x5, .ref x6, .int x7, .ref x8, .int x9, .int x10]))] ++ va_pl L M) := hD
            rcases hp_31 with ⟨rfl, c_32, c_33⟩ | rfl
            · have hz := rfl (a := 0)
              refine lv_if_ne (tgt := 60) hx hb dX11_leaf_51 (by decide) (fun _ => ?_) (fun c_34 => absurd c_34 (by decide))
              refine lv_aload hx hb dX11_leaf_60 (lv_at hl 0 rfl) ?_
              refine pg_get (D := D) (ci := 2) (v := .ref v27_12) (C := RX2) (T := TX2) (N := 20) hx hb hg inG2 hown hK hP hb_10.1 hM27 rfl 12 (by decide) (hg _ wd_377) (fun _ h9 => h9) rfl dX11_leaf_62 ?_
              refine lv_iload_n hx hb dX11_leaf_65 rfl (lv_at hl 3 rfl) ?_
              rcases lit7 c_21 c_26 with rfl | rfl | rfl | rfl | rfl | rfl | rfl
              · have hz := rfl (a := 0)
                refine va_new (ci := 3) (fs := [.int 0, .null, .int 0]) (C := RX3) (T := TX3) (N := 3) hx hb hg inG3 tyX3 tyX3_ok hown (hg _ wd_592) (hg _ wd_593) (hg _ wd_39) hK hP hD hS hA rfl dfX3 (Nat.le_trans (Nat.le_of_ble_eq_true rfl) hRc) (Nat.le_trans (Nat.le_of_ble_eq_true rfl) hRs) dX11_leaf_66 (fun q_35 H_36 hP hD hS => ?_)
                have hP : va_P D vwCl ([(xa, .inr (11, [.ref x0, .int (nI x1), .ref x2, .int (nI x3), .ref x4, .ref x5, .ref x6, .int x7, .ref x8, .int x9, .int x10])), (q_35, .inr (3, [.int 0, .null, .int 0]))] ++ va_pl L M) H_36 := hP.swap
                have hD : va_D A ([(xa, .inr (11, [.ref x0, .int (nI x1), .ref x2, .int (nI x3), .ref x4, .ref x5, .ref x6, .int x7, .ref x8, .int x9, .int x10])), (q_35, .inr (3, [.int 0, .null, .int 0]))] ++ va_pl L M) := hD.swap
                refine W.widen (k := 1) (n := 3) (Nat.le_of_ble_eq_true rfl) (Nat.le_of_ble_eq_true rfl) ?_
                refine lv_dup hx hb dX11_leaf_69 rfl ?_
                refine lv_iload_n hx hb dX11_leaf_70 rfl (lv_at hl 4 rfl) ?_
                refine lv_iload hx hb dX11_leaf_71 (lv_at hl 5 rfl) ?_
                have hPc := hP.sub (ws' := [(q_35, .inr (3, [.int 0, .null, .int 0]))]) [1] rfl
                have hDc := hD.sub (ws' := [(q_35, .inr (3, [.int 0, .null, .int 0]))]) [1] (by decide) rfl
                have hKc := hK.sub (tys' := []) [] rfl
                have hFc := va_free (wc := [(q_35, .inr (3, [.int 0, .null, .int 0]))]) hD hS hA [1] rfl
                refine va_callv (va_runI (As := [.int k3, .int 0]) (rest := [.ref q_35, .int k2, .ref v27_12]) ⟨hx, hb, hml, hown, hg⟩ (k_Leaf_0 l D H_36.size q_35 k3) (cwI 2 hg (gB wd_594) rfl rfl rfl (hg _ wd_39) (hg _ wd_595) (hg _ wd_596) rfl (by decide +kernel) ⟨(Nat.le_trans (Nat.le_of_ble_eq_true rfl) hRf), (Nat.le_trans (Nat.le_of_ble_eq_true rfl) hRl)⟩) ⟨Pr.blind, fun U hU hW => ⟨rfl, Pr.at hPc hKc hDc hN hU hW⟩⟩ rfl rfl hl.1 rfl (lv_room (Nat.le_of_ble_eq_true rfl)) dX11_leaf_73 ⟨(Nat.le_trans (Nat.le_of_ble_eq_true rfl) hRc), (Nat.le_trans (Nat.le_of_ble_eq_true rfl) hRs)⟩) hS (fun q _ h => hFc q h) hFc (fun M_39 t H_37 locs ht hvm hw hB hz1 hk1 hS => ?_)
                have hp_40 := hw
                obtain ⟨e0_41, c0_42, hP1, hK1, hD1⟩ := hB
                rw [ht] at hP1
                have hK1 := va_K.moved hvm.symm hK1
                obtain ⟨hP, hD⟩ := va_joinQ (X := [(xa, .inr (11, [.ref x0, .int (nI x1), .ref x2, .int (nI x3), .ref x4, .ref x5, .ref x6, .int x7, .ref x8, .int x9, .int x10])), (q_35, .inr (3, [.int 0, .null, .int 0]))]) (cx := [(q_35, .inr (3, [.int 0, .null, .int 0]))]) (wr := [(xa, .inr (11, [.ref x0, .int (nI x1), .ref x2, .int (nI x3), .ref x4, .ref x5, .ref x6, .int x7, .ref x8, .int x9, .int x10]))]) (w1 := [(q_35, .inr (3, [.int k3, .ref e0_41, .int 0])), (e0_41, .inl (c0_42, 0, .inl (fun _ => 0)))]) (pl := va_pl L M) hP hD [1] [0] rfl rfl (by decide) (by decide) hk1 hFc hP1 hD1
                have hP : va_P D vwCl ([(xa, .inr (11, [.ref x0, .int (nI x1), .ref x2, .int (nI x3), .ref x4, .ref x5, .ref x6, .int x7, .ref x8, .int x9, .int x10])), (q_35, .inr (3, [.int k3, .ref e0_41, .int 0])), (e0_41, .inl (c0_42, 0, .inl (fun _ => 0)))] ++ va_pl L M) H_37 := hP
                have hD : va_D A ([(xa, .inr (11, [.ref x0, .int (nI x1), .ref x2, .int (nI x3), .ref x4, .ref x5, .ref x6, .int x7, .ref x8, .int x9, .int x10])), (q_35, .inr (3, [.int k3, .ref e0_41, .int 0])), (e0_41, .inl (c0_42, 0, .inl (fun _ => 0)))] ++ va_pl L M) := hD
                have hK2 := hK.app hK1
                obtain rfl : c0_42 = cy 14 := cls_eq hK2 10 0 rfl rfl
                refine W.widen (k := 2) (n := 3) (Nat.le_of_ble_eq_true rfl) (Nat.le_of_ble_eq_true rfl) ?_
                have hP : va_P D vwCl (([(xa, .inr (11, [.ref x0, .int (nI x1), .ref x2, .int (nI x3), .ref x4, .ref x5, .ref x6, .int x7, .ref x8, .int x9, .int x10])), (q_35, .inr (3, [.int k3, .ref e0_41, .int 0]))] ++ [(e0_41, .inl ((cy 14), 0, .inl (fun _ => 0)))]) ++ va_pl L M) H_37 := hP.part (cx := [(xa, .inr (11, [.ref x0, .int (nI x1), .ref x2, .int (nI x3), .ref x4, .ref x5, .ref x6, .int x7, .ref x8, .int x9, .int x10])), (q_35, .inr (3, [.int k3, .ref e0_41, .int 0]))] ++ [(e0_41, .inl ((cy 14), 0, .inl (fun _ => 0)))]) [0, 1, 2] rfl
                have hD : va_D A (([(xa, .inr (11, [.ref x0, .int (nI x1), .ref x2, .int (nI x3), .ref x4, .ref x5, .ref x6, .int x7, .ref x8, .int x9, .int x10])), (q_35, .inr (3, [.int k3, .ref e0_41, .int 0]))] ++ [(e0_41, .inl ((cy 14), 0, .inl (fun _ => 0)))]) ++ va_pl L M) := hD.part (cx := [(xa, .inr (11, [.ref x0, .int (nI x1), .ref x2, .int (nI x3), .ref x4, .ref x5, .ref x6, .int x7, .ref x8, .int x9, .int x10])), (q_35, .inr (3, [.int k3, .ref e0_41, .int 0]))] ++ [(e0_41, .inl ((cy 14), 0, .inl (fun _ => 0)))]) [0, 1, 2] (by decide) rfl
                obtain ⟨K9, L9, M_43, hx9, i_44, hW, hP, hD, hM_45, hfr9, hq9⟩ := adoptE 53 0 hP hD hW (fun K' L' x i => (⟨_, rfl⟩ : gd_53 cy K' L' 0 _))
                have hM_47 : M_43 b_5 = .inr (2, [.int v27_0, .int v27_1, .int v27_2, .ref v27_3, .int (nI v27_4), .int (nI v27_5), .ref v27_6, .ref v27_7, .ref v27_8, .int (nI v27_9), .ref v27_10, .int (nI v27_11), .ref v27_12, .ref v27_13, .long v27_14, .int v27_15, .ref v27_16, .ref v27_17, .ref v27_18, .ref v27_19]) := (hfr9 _ hb_10.1).trans hM27
                have hF : fr K0 L0 [10, 18] M0 M_43 := hF.adX hX0 hfr9
                have hT10 : fT 10 K0 L0 [1, 2] M0 M_43 := hT10.adX hX0 hfr9
                have hX0 := hX0.tr hx9
                have i_48 := i0.ext hx9
                have i_49 := i2.ext hx9
                have i_50 := i4.ext hx9
                have i_51 := i5.ext hx9
                have i_52 := i6.ext hx9
                have i_53 := i8.ext hx9
                have i_54 := hb_10.ext hx9
                have i_55 := h27_3.ext hx9
                have i_56 := h27_6.ext hx9
                have i_57 := h27_7.ext hx9
                have i_58 := h27_8.ext hx9
                have i_59 := h27_10.ext hx9
                have i_60 := h27_12.ext hx9
                have i_61 := h27_13.ext hx9
                have i_62 := h27_16.ext hx9
                have i_63 := h27_17.ext hx9
                have i_64 := h27_18.ext hx9
                have i_65 := h27_19.ext hx9
                obtain ⟨K, L, hK9, hL9⟩ : ∃ (K : Kp) (L : List Nat), K = K9 ∧ L = L9 := ⟨_, _, rfl, rfl⟩
                subst hK9
                subst hL9
                have hP : va_P D vwCl ([(xa, .inr (11, [.ref x0, .int (nI x1), .ref x2, .int (nI x3), .ref x4, .ref x5, .ref x6, .int x7, .ref x8, .int x9, .int x10])), (q_35, .inr (3, [.int k3, .ref e0_41, .int 0]))] ++ va_pl L M_43) H_37 := hP
                have hD : va_D A ([(xa, .inr (11, [.ref x0, .int (nI x1), .ref x2, .int (nI x3), .ref x4, .ref x5, .ref x6, .int x7, .ref x8, .int x9, .int x10])), (q_35, .inr (3, [.int k3, .ref e0_41, .int 0]))] ++ va_pl L M_43) := hD
                have hP : va_P D vwCl (([(xa, .inr (11, [.ref x0, .int (nI x1), .ref x2, .int (nI x3), .ref x4, .ref x5, .ref x6, .int x7, .ref x8, .int x9, .int x10]))] ++ [(q_35, .inr (3, [.int k3, .ref e0_41, .int 0]))]) ++ va_pl L M_43) H_37 := hP.part (cx := [(xa, .inr (11, [.ref x0, .int (nI x1), .ref x2, .int (nI x3), .ref x4, .ref x5, .ref x6, .int x7, .ref x8, .int x9, .int x10]))] ++ [(q_35, .inr (3, [.int k3, .ref e0_41, .int 0]))]) [0, 1] rfl
                have hD : va_D A (([(xa, .inr (11, [.ref x0, .int (nI x1), .ref x2, .int (nI x3), .ref x4, .ref x5, .ref x6, .int x7, .ref x8, .int x9, .int x10]))] ++ [(q_35, .inr (3, [.int k3, .ref e0_41, .int 0]))]) ++ va_pl L M_43) := hD.part (cx := [(xa, .inr (11, [.ref x0, .int (nI x1), .ref x2, .int (nI x3), .ref x4, .ref x5, .ref x6, .int x7, .ref x8, .int x9, .int x10]))] ++ [(q_35, .inr (3, [.int k3, .ref e0_41, .int 0]))]) [0, 1] (by decide) rfl
                obtain ⟨K9, L9, M_66, hx9, i_67, hW, hP, hD, hM_68, hfr9, hq9⟩ := adoptE 3 0 hP hD hW (fun K' L' x i => (⟨0, k3, e0_41, 0, rfl, i_44.ext x, (by omega), (by decide)⟩ : gd_3 K' L' _))
                have hM_69 : M_66 b_5 = .inr (2, [.int v27_0, .int v27_1, .int v27_2, .ref v27_3, .int (nI v27_4), .int (nI v27_5), .ref v27_6, .ref v27_7, .ref v27_8, .int (nI v27_9), .ref v27_10, .int (nI v27_11), .ref v27_12, .ref v27_13, .long v27_14, .int v27_15, .ref v27_16, .ref v27_17, .ref v27_18, .ref v27_19]) := (hfr9 _ i_54.1).trans hM_47
                have hF : fr K0 L0 [10, 18] M0 M_66 := hF.adX hX0 hfr9
                have hT10 : fT 10 K0 L0 [1, 2] M0 M_66 := hT10.adX hX0 hfr9
                have hX0 := hX0.tr hx9
                have i_70 := i_48.ext hx9
                have i_71 := i_49.ext hx9
                have i_72 := i_50.ext hx9
                have i_73 := i_51.ext hx9
                have i_74 := i_52.ext hx9
                have i_75 := i_53.ext hx9
                have i_76 := i_54.ext hx9
                have i_77 := i_55.ext hx9
                have i_78 := i_56.ext hx9
                have i_79 := i_57.ext hx9
                have i_80 := i_58.ext hx9
                have i_81 := i_59.ext hx9
                have i_82 := i_60.ext hx9
                have i_83 := i_61.ext hx9
                have i_84 := i_62.ext hx9
                have i_85 := i_63.ext hx9
                have i_86 := i_64.ext hx9
                have i_87 := i_65.ext hx9
                obtain ⟨K, L, hK9, hL9⟩ : ∃ (K : Kp) (L : List Nat), K = K9 ∧ L = L9 := ⟨_, _, rfl, rfl⟩
                subst hK9
                subst hL9
                have hP : va_P D vwCl ([(xa, .inr (11, [.ref x0, .int (nI x1), .ref x2, .int (nI x3), .ref x4, .ref x5, .ref x6, .int x7, .ref x8, .int x9, .int x10]))] ++ va_pl L M_66) H_37 := hP
                have hD : va_D A ([(xa, .inr (11, [.ref x0, .int (nI x1), .ref x2, .int (nI x3), .ref x4, .ref x5, .ref x6, .int x7, .ref x8, .int x9, .int x10]))] ++ va_pl L M_66) := hD
                obtain ⟨f88, hM88, hf88⟩ := hW.open_18 i_82
                obtain ⟨n90, v90_0, v90_1, v90_2, hM90, h90_1, h90_2, y90_0⟩ := hW.open_3 i_67
                refine pg_astq (r := (RX3, TX3, 3)) hx hb hK hP hD hS i_82.1 4 3 hM88 rfl i_67.1 hM90 rfl (inbE k2 999 1000 (by decide) (by decide) c_32 (Int32.not_lt.mp c_33)) dX11_leaf_76 (fun H_89 locs hP hD hS => ?_)
                obtain ⟨M_91, eM_91⟩ : ∃ M1 : Hp, M1 = va_up M_66 v27_12 (.inl (cy 18, 1000, .inr (.inr (.inr (.inr (va_up f88 (k2 : Int32).toNatClampNeg (some q_35))))))) := ⟨_, rfl⟩
                have hP : va_P D vwCl ([(xa, .inr (11, [.ref x0, .int (nI x1), .ref x2, .int (nI x3), .ref x4, .ref x5, .ref x6, .int x7, .ref x8, .int x9, .int x10]))] ++ va_pl L M_91) H_89 := by rw [eM_91]; exact hP
                have hD : va_D A ([(xa, .inr (11, [.ref x0, .int (nI x1), .ref x2, .int (nI x3), .ref x4, .ref x5, .ref x6, .int x7, .ref x8, .int x9, .int x10]))] ++ va_pl L M_91) := by rw [eM_91]; exact hD
                have hW : WOK cy K L M_91 := by rw [eM_91]; exact hW.up_18 i_82 ⟨_, rfl, (upN hf88 i_67)⟩
                have hF : fr K0 L0 [10, 18] M0 M_91 := by rw [eM_91]; exact hF.upX hX0 i_82 (by decide)
                have hT10 : fT 10 K0 L0 [1, 2] M0 M_91 := by rw [eM_91]; exact hT10.neX hX0 i_82 (by decide)
                have hM_92 : M_91 v27_12 = .inl (cy 18, 1000, .inr (.inr (.inr (.inr (va_up f88 (k2 : Int32).toNatClampNeg (some q_35)))))) := by rw [eM_91]; exact va_up_self _ _ _
                have hM_93 : M_91 b_5 = .inr (2, [.int v27_0, .int v27_1, .int v27_2, .ref v27_3, .int (nI v27_4), .int (nI v27_5), .ref v27_6, .ref v27_7, .ref v27_8, .int (nI v27_9), .ref v27_10, .int (nI v27_11), .ref v27_12, .ref v27_13, .long v27_14, .int v27_15, .ref v27_16, .ref v27_17, .ref v27_18, .ref v27_19]) := by rw [eM_91, va_up_ne _ _ (i_76.neT i_82 (by decide))]; exact hM_69
                have hM_94 : M_91 q_35 = .inr (3, [.int v90_0, .ref v90_1, .int (nI v90_2)]) := by rw [eM_91, va_up_ne _ _ (i_67.neT i_82 (by decide))]; exact hM90
                have hf_96 : ∀ j, j < 1000 → iskN K L ((va_up f88 (k2 : Int32).toNatClampNeg (some q_35)) j) 3 0 := (upN hf88 i_67)
                obtain ⟨f_95, ef_95⟩ : ∃ f : Nat → Option Nat, f = va_up f88 (k2 : Int32).toNatClampNeg (some q_35) := ⟨_, rfl⟩
                rw [← ef_95] at hM_92 hf_96
                have hk_97 : f_95 (k2 : Int32).toNatClampNeg = some q_35 := by rw [ef_95]; exact va_up_self _ _ _
                clear ef_95
                refine lv_aload hx hb dX11_leaf_77 (lv_at hl 0 rfl) ?_
                refine pg_get (D := D) (ci := 2) (v := .ref v27_18) (C := RX2) (T := TX2) (N := 20) hx hb hg inG2 hown hK hP i_76.1 hM_93 rfl 18 (by decide) (hg _ wd_378) (fun _ h9 => h9) rfl dX11_leaf_79 ?_
                obtain ⟨v98_0, v98_1, v98_2, hM98, h98_0⟩ := hW.open_10 i_86
                have hPc : va_P D vwCl ([] ++ va_pl L M_91) H_89 := hP.part (cx := []) [] rfl
                have hDc : va_D A ([] ++ va_pl L M_91) := hD.part (cx := []) [] (by decide) rfl
                have hFc : ∀ q, va_A ([] ++ va_pl L M_91) H_89.size q → A q := pg_free hDc hS hA
                refine va_callv (va_runV (As := []) (rest := []) ⟨hx, hb, hml, hown, hg⟩ (s_X10_clear l D cy K L M_91 H_89.size v27_18  hW i_86) (cwV 0 hg (gV wd_379 wd_380 wd_381 wd_114 wd_382) rfl rfl rfl (by decide +kernel) ⟨(Nat.le_trans (Nat.le_of_ble_eq_true rfl) hRf), (Nat.le_trans (Nat.le_of_ble_eq_true rfl) hRl)⟩) ⟨PG.blind, pg_recv hK hP i_86.1 hM98 rfl, fun U hU hW => ⟨rfl, PG.at hPc hK hDc hN hU hW⟩⟩ rfl rfl hl.1 rfl (lv_room (Nat.le_of_ble_eq_true rfl)) dX11_leaf_82 ⟨(Nat.le_trans (Nat.le_of_ble_eq_true rfl) hRc), (Nat.le_trans (Nat.le_of_ble_eq_true rfl) hRs)⟩) hS (fun q _ h => hFc q h) hFc (fun M_101 t H_99 locs ht hvm hw hB hz1 hk1 hS => ?_)
                obtain ⟨hW, hF2, gT10, hp_102⟩ := hw
                obtain ⟨hP1, hD1⟩ := hB
                rw [ht] at hP1
                obtain ⟨hP, hD⟩ := va_joinP (X := [(xa, .inr (11, [.ref x0, .int (nI x1), .ref x2, .int (nI x3), .ref x4, .ref x5, .ref x6, .int x7, .ref x8, .int x9, .int x10]))]) (cx := []) (wr := [(xa, .inr (11, [.ref x0, .int (nI x1), .ref x2, .int (nI x3), .ref x4, .ref x5, .ref x6, .int x7, .ref x8, .int x9, .int x10]))]) (rx := []) (pl := va_pl L M_91) (pl1 := va_pl L M_101) hP hD [] [0] rfl rfl (by decide) (by decide) hk1 hFc hP1 hD1
                have hP : va_P D vwCl ([(xa, .inr (11, [.ref x0, .int (nI x1), .ref x2, .int (nI x3), .ref x4, .ref x5, .ref x6, .int x7, .ref x8, .int x9, .int x10]))] ++ va_pl L M_101) H_99 := hP
                have hD : va_D A ([(xa, .inr (11, [.ref x0, .int (nI x1), .ref x2, .int (nI x3), .ref x4, .ref x5, .ref x6, .int x7, .ref x8, .int x9, .int x10]))] ++ va_pl L M_101) := hD
                have hM_103 : M_101 v27_12 = .inl (cy 18, 1000, .inr (.inr (.inr (.inr (f_95))))) := (hF2.at i_82 (by decide)).trans hM_92
                have hM_104 : M_101 b_5 = .inr (2, [.int v27_0, .int v27_1, .int v27_2, .ref v27_3, .int (nI v27_4), .int (nI v27_5), .ref v27_6, .ref v27_7, .ref v27_8, .int (nI v27_9), .ref v27_10, .int (nI v27_11), .ref v27_12, .ref v27_13, .long v27_14, .int v27_15, .ref v27_16, .ref v27_17, .ref v27_18, .ref v27_19]) := (hF2.at i_76 (by decide)).trans hM_93
                have hM_105 : M_101 q_35 = .inr (3, [.int v90_0, .ref v90_1, .int (nI v90_2)]) := (hF2.at i_67 (by decide)).trans hM_94
                have hF : fr K0 L0 [10, 18] M0 M_101 := hF.trX hX0 hF2 (by decide)
                have hT10 : fT 10 K0 L0 [1, 2] M0 M_101 := hT10.trX hX0 gT10 (by decide)
                refine lv_aload_n hx hb dX11_leaf_85 rfl (lv_at hl 1 rfl) ?_
                refine lv_iload hx hb dX11_leaf_86 (lv_at hl 5 rfl) ?_
                have hPc := hP.sub (ws' := [(xa, .inr (11, [.ref x0, .int (nI x1), .ref x2, .int (nI x3), .ref x4, .ref x5, .ref x6, .int x7, .ref x8, .int x9, .int x10]))]) [0] rfl
                have hDc := hD.sub (ws' := [(xa, .inr (11, [.ref x0, .int (nI x1), .ref x2, .int (nI x3), .ref x4, .ref x5, .ref x6, .int x7, .ref x8, .int x9, .int x10]))]) [0] (by decide) rfl
                have hKc := hK.sub (tys' := []) [] rfl
                have hFc := va_free (wc := [(xa, .inr (11, [.ref x0, .int (nI x1), .ref x2, .int (nI x3), .ref x4, .ref x5, .ref x6, .int x7, .ref x8, .int x9, .int x10]))]) hD hS hA [0] rfl
                refine va_calli (va_runV (As := [.int 0]) (rest := []) ⟨hx, hb, hml, hown, hg⟩ (k_accept l D H_99.size xa x0 (nI x1) x2 (nI x3) x4 x5 x6 x7 x8 x9 x10 0) (cwV 1 hg (gV wd_356 wd_357 wd_358 wd_3 wd_359) rfl rfl rfl (by decide +kernel) ⟨(Nat.le_trans (Nat.le_of_ble_eq_true rfl) hRf), (Nat.le_trans (Nat.le_of_ble_eq_true rfl) hRl)⟩) ⟨Pr.blind, va_recv hK hP (ci := 11) (q0 := 0) rfl rfl, fun U hU hW => ⟨rfl, Pr.at hPc hKc hDc hN hU hW⟩⟩ rfl rfl hl.1 rfl (lv_room (Nat.le_of_ble_eq_true rfl)) dX11_leaf_88 ⟨(Nat.le_trans (Nat.le_of_ble_eq_true rfl) hRc), (Nat.le_trans (Nat.le_of_ble_eq_true rfl) hRs)⟩) hS (fun q _ h => hFc q h) hFc (fun r_107 M_108 t H_106 locs ht hvm hw hB hz1 hk1 hS => ?_)
                have hp_109 := hw
                obtain ⟨hP1, hK1, hD1⟩ := hB
                rw [ht] at hP1
                obtain ⟨hP, hD⟩ := va_joinQ (X := [(xa, .inr (11, [.ref x0, .int (nI x1), .ref x2, .int (nI x3), .ref x4, .ref x5, .ref x6, .int x7, .ref x8, .int x9, .int x10]))]) (cx := [(xa, .inr (11, [.ref x0, .int (nI x1), .ref x2, .int (nI x3), .ref x4, .ref x5, .ref x6, .int x7, .ref x8, .int x9, .int x10]))]) (wr := []) (w1 := [(xa, .inr (11, [.ref x0, .int (nI x1), .ref x2, .int (nI x3), .ref x4, .ref x5, .ref x6, .int x7, .ref x8, .int 0, .int (-1)]))]) (pl := va_pl L M_101) hP hD [0] [] rfl rfl (by decide) (by decide) hk1 hFc hP1 hD1
                have hP : va_P D vwCl ([(xa, .inr (11, [.ref x0, .int (nI x1), .ref x2, .int (nI x3), .ref x4, .ref x5, .ref x6, .int x7, .ref x8, .int 0, .int (-1)]))] ++ va_pl L M_101) H_106 := hP
                have hD : va_D A ([(xa, .inr (11, [.ref x0, .int (nI x1), .ref x2, .int (nI x3), .ref x4, .ref x5, .ref x6, .int x7, .ref x8, .int 0, .int (-1)]))] ++ va_pl L M_101) := hD
                have hq := Eq.symm hp_109
                subst hq
                refine W.widen (k := 2) (n := 9) (Nat.le_of_ble_eq_true rfl) (Nat.le_of_ble_eq_true rfl) ?_
                rw [hQ]
                exact W.iret (v := 0) hx hb hr (fun t ht hW9 => ⟨⟨0, (K, L, M_101), rfl, ⟨hX0, hW, hF, hT10, trivial⟩, ⟨0, (-1), by rw [ht]; exact hP, hD⟩⟩, hS.F ht⟩) hS.2.2 dX11_leaf_91
              · have hz := rfl (a := 0)
                refine va_new (ci := 3) (fs := [.int 0, .null, .int 0]) (C := RX3) (T := TX3) (N := 3) hx hb hg inG3 tyX3 tyX3_ok hown (hg _ wd_592) (hg _ wd_593) (hg _ wd_39) hK hP hD hS hA rfl dfX3 (Nat.le_trans (Nat.le_of_ble_eq_true rfl) hRc) (Nat.le_trans (Nat.le_of_ble_eq_true rfl) hRs) dX11_leaf_66 (fun q_110 H_111 hP hD hS => ?_)
                have hP : va_P D vwCl ([(xa, .inr (11, [.ref x0, .int (nI x1), .ref x2, .int (nI x3), .ref x4, .ref x5, .ref x6, .int x7, .ref x8, .int x9, .int x10])), (q_110, .inr (3, [.int 0, .null, .int 0]))] ++ va_pl L M) H_111 := hP.swap
                have hD : va_D A ([(xa, .inr (11, [.ref x0, .int (nI x1), .ref x2, .int (nI x3), .ref x4, .ref x5, .ref x6, .int x7, .ref x8, .int x9, .int x10])), (q_110, .inr (3, [.int 0, .null, .int 0]))] ++ va_pl L M) := hD.swap
                refine W.widen (k := 1) (n := 3) (Nat.le_of_ble_eq_true rfl) (Nat.le_of_ble_eq_true rfl) ?_
                refine lv_dup hx hb dX11_leaf_69 rfl ?_
                refine lv_iload_n hx hb dX11_leaf_70 rfl (lv_at hl 4 rfl) ?_
                refine lv_iload hx hb dX11_leaf_71 (lv_at hl 5 rfl) ?_
                have hPc := hP.sub (ws' := [(q_110, .inr (3, [.int 0, .null, .int 0]))]) [1] rfl
                have hDc := hD.sub (ws' := [(q_110, .inr (3, [.int 0, .null, .int 0]))]) [1] (by decide) rfl
                have hKc := hK.sub (tys' := []) [] rfl
                have hFc := va_free (wc := [(q_110, .inr (3, [.int 0, .null, .int 0]))]) hD hS hA [1] rfl
                refine va_callv (va_runI (As := [.int k3, .int 1]) (rest := [.ref q_110, .int k2, .ref v27_12]) ⟨hx, hb, hml, hown, hg⟩ (k_Leaf_1 l D H_111.size q_110 k3) (cwI 2 hg (gB wd_594) rfl rfl rfl (hg _ wd_39) (hg _ wd_595) (hg _ wd_596) rfl (by decide +kernel) ⟨(Nat.le_trans (Nat.le_of_ble_eq_true rfl) hRf), (Nat.le_trans (Nat.le_of_ble_eq_true rfl) hRl)⟩) ⟨Pr.blind, fun U hU hW => ⟨rfl, Pr.at hPc hKc hDc hN hU hW⟩⟩ rfl rfl hl.1 rfl (lv_room (Nat.le_of_ble_eq_true rfl)) dX11_leaf_73 ⟨(Nat.le_trans (Nat.le_of_ble_eq_true rfl) hRc), (Nat.le_trans (Nat.le_of_ble_eq_true rfl) hRs)⟩) hS (fun q _ h => hFc q h) hFc (fun M_114 t H_112 locs ht hvm hw hB hz1 hk1 hS => ?_)
                have hp_115 := hw
                obtain ⟨e0_116, c0_117, hP1, hK1, hD1⟩ := hB
                rw [ht] at hP1
                have hK1 := va_K.moved hvm.symm hK1
                obtain ⟨hP, hD⟩ := va_joinQ (X := [(xa, .inr (11, [.ref x0, .int (nI x1), .ref x2, .int (nI x3), .ref x4, .ref x5, .ref x6, .int x7, .ref x8, .int x9, .int x10])), (q_110, .inr (3, [.int 0, .null, .int 0]))]) (cx := [(q_110, .inr (3, [.int 0, .null, .int 0]))]) (wr := [(xa, .inr (11, [.ref x0, .int (nI x1), .ref x2, .int (nI x3), .ref x4, .ref x5, .ref x6, .int x7, .ref x8, .int x9, .int x10]))]) (w1 := [(q_110, .inr (3, [.int k3, .ref e0_116, .int 0])), (e0_116, .inl (c0_117, 1, .inl (fun _ => 0)))]) (pl := va_pl L M) hP hD [1] [0] rfl rfl (by decide) (by decide) hk1 hFc hP1 hD1
                have hP : va_P D vwCl ([(xa, .inr (11, [.ref x0, .int (nI x1), .ref x2, .int (nI x3), .ref x4, .ref x5, .ref x6, .int x7, .ref x8, .int x9, .int x10])), (q_110, .inr (3, [.int k3, .ref e0_116, .int 0])), (e0_116, .inl (c0_117, 1, .inl (fun _ => 0)))] ++ va_pl L M) H_112 := hP
                have hD : va_D A ([(xa, .inr (11, [.ref x0, .int (nI x1), .ref x2, .int (nI x3), .ref x4, .ref x5, .ref x6, .int x7, .ref x8, .int x9, .int x10])), (q_110, .inr (3, [.int k3, .ref e0_116, .int 0])), (e0_116, .inl (c0_117, 1, .inl (fun _ => 0)))] ++ va_pl L M) := hD
                have hK2 := hK.app hK1
                obtain rfl : c0_117 = cy 14 := cls_eq hK2 10 0 rfl rfl
                refine W.widen (k := 2) (n := 4) (Nat.le_of_ble_eq_true rfl) (Nat.le_of_ble_eq_true rfl) ?_
                have hP : va_P D vwCl (([(xa, .inr (11, [.ref x0, .int (nI x1), .ref x2, .int (nI x3), .ref x4, .ref x5, .ref x6, .int x7, .ref x8, .int x9, .int x10])), (q_110, .inr (3, [.int k3, .ref e0_116, .int 0]))] ++ [(e0_116, .inl ((cy 14), 1, .inl (fun _ => 0)))]) ++ va_pl L M) H_112 := hP.part (cx := [(xa, .inr (11, [.ref x0, .int (nI x1), .ref x2, .int (nI x3), .ref x4, .ref x5, .ref x6, .int x7, .ref x8, .int x9, .int x10])), (q_110, .inr (3, [.int k3, .ref e0_116, .int 0]))] ++ [(e0_116, .inl ((cy 14), 1, .inl (fun _ => 0)))]) [0, 1, 2] rfl
                have hD : va_D A (([(xa, .inr (11, [.ref x0, .int (nI x1), .ref x2, .int (nI x3), .ref x4, .ref x5, .ref x6, .int x7, .ref x8, .int x9, .int x10])), (q_110, .inr (3, [.int k3, .ref e0_116, .int 0]))] ++ [(e0_116, .inl ((cy 14), 1, .inl (fun _ => 0)))]) ++ va_pl L M) := hD.part (cx := [(xa, .inr (11, [.ref x0, .int (nI x1), .ref x2, .int (nI x3), .ref x4, .ref x5, .ref x6, .int x7, .ref x8, .int x9, .int x10])), (q_110, .inr (3, [.int k3, .ref e0_116, .int 0]))] ++ [(e0_116, .inl ((cy 14), 1, .inl (fun _ => 0)))]) [0, 1, 2] (by decide) rfl
                obtain ⟨K9, L9, M_118, hx9, i_119, hW, hP, hD, hM_120, hfr9, hq9⟩ := adoptE 53 1 hP hD hW (fun K' L' x i => (⟨_, rfl⟩ : gd_53 cy K' L' 1 _))
                have hM_122 : M_118 b_5 = .inr (2, [.int v27_0, .int v27_1, .int v27_2, .ref v27_3, .int (nI v27_4), .int (nI v27_5), .ref v27_6, .ref v27_7, .ref v27_8, .int (nI v27_9), .ref v27_10, .int (nI v27_11), .ref v27_12, .ref v27_13, .long v27_14, .int v27_15, .ref v27_16, .ref v27_17, .ref v27_18, .ref v27_19]) := (hfr9 _ hb_10.1).trans hM27
                have hF : fr K0 L0 [10, 18] M0 M_118 := hF.adX hX0 hfr9
                have hT10 : fT 10 K0 L0 [1, 2] M0 M_118 := hT10.adX hX0 hfr9
                have hX0 := hX0.tr hx9
                have i_123 := i0.ext hx9
                have i_124 := i2.ext hx9
                have i_125 := i4.ext hx9
                have i_126 := i5.ext hx9
                have i_127 := i6.ext hx9
                have i_128 := i8.ext hx9
                have i_129 := hb_10.ext hx9
                have i_130 := h27_3.ext hx9
                have i_131 := h27_6.ext hx9
                have i_132 := h27_7.ext hx9
                have i_133 := h27_8.ext hx9
                have i_134 := h27_10.ext hx9
                have i_135 := h27_12.ext hx9
                have i_136 := h27_13.ext hx9
                have i_137 := h27_16.ext hx9
                have i_138 := h27_17.ext hx9
                have i_139 := h27_18.ext hx9
                have i_140 := h27_19.ext hx9
                obtain ⟨K, L, hK9, hL9⟩ : ∃ (K : Kp) (L : List Nat), K = K9 ∧ L = L9 := ⟨_, _, rfl, rfl⟩
                subst hK9
                subst hL9
                have hP : va_P D vwCl ([(xa, .inr (11, [.ref x0, .int (nI x1), .ref x2, .int (nI x3), .ref x4, .ref x5, .ref x6, .int x7, .ref x8, .int x9, .int x10])), (q_110, .inr (3, [.int k3, .ref e0_116, .int 0]))] ++ va_pl L M_118) H_112 := hP
                have hD : va_D A ([(xa, .inr (11, [.ref x0, .int (nI x1), .ref x2, .int (nI x3), .ref x4, .ref x5, .ref x6, .int x7, .ref x8, .int x9, .int x10])), (q_110, .inr (3, [.int k3, .ref e0_116, .int 0]))] ++ va_pl L M_118) := hD
                have hP : va_P D vwCl (([(xa, .inr (11, [.ref x0, .int (nI x1), .ref x2, .int (nI x3), .ref x4, .ref x5, .ref x6, .int x7, .ref x8, .int x9, .int x10]))] ++ [(q_110, .inr (3, [.int k3, .ref e0_116, .int 0]))]) ++ va_pl L M_118) H_112 := hP.part (cx := [(xa, .inr (11, [.ref x0, .int (nI x1), .ref x2, .int (nI x3), .ref x4, .ref x5, .ref x6, .int x7, .ref x8, .int x9, .int x10]))] ++ [(q_110, .inr (3, [.int k3, .ref e0_116, .int 0]))]) [0, 1] rfl
                have hD : va_D A (([(xa, .inr (11, [.ref x0, .int (nI x1), .ref x2, .int (nI x3), .ref x4, .ref x5, .ref x6, .int x7, .ref x8, .int x9, .int x10]))] ++ [(q_110, .inr (3, [.int k3, .ref e0_116, .int 0]))]) ++ va_pl L M_118) := hD.part (cx := [(xa, .inr (11, [.ref x0, .int (nI x1), .ref x2, .int (nI x3), .ref x4, .ref x5, .ref x6, .int x7, .ref x8, .int x9, .int x10]))] ++ [(q_110, .inr (3, [.int k3, .ref e0_116, .int 0]))]) [0, 1] (by decide) rfl
                obtain ⟨K9, L9, M_141, hx9, i_142, hW, hP, hD, hM_143, hfr9, hq9⟩ := adoptE 3 0 hP hD hW (fun K' L' x i => (⟨1, k3, e0_116, 0, rfl, i_119.ext x, (by omega), (by decide)⟩ : gd_3 K' L' _))
                have hM_144 : M_141 b_5 = .inr (2, [.int v27_0, .int v27_1, .int v27_2, .ref v27_3, .int (nI v27_4), .int (nI v27_5), .ref v27_6, .ref v27_7, .ref v27_8, .int (nI v27_9), .ref v27_10, .int (nI v27_11), .ref v27_12, .ref v27_13, .long v27_14, .int v27_15, .ref v27_16, .ref v27_17, .ref v27_18, .ref v27_19]) := (hfr9 _ i_129.1).trans hM_122
                have hF : fr K0 L0 [10, 18] M0 M_141 := hF.adX hX0 hfr9
                have hT10 : fT 10 K0 L0 [1, 2] M0 M_141 := hT10.adX hX0 hfr9
                have hX0 := hX0.tr hx9
                have i_145 := i_123.ext hx9
                have i_146 := i_124.ext hx9
                have i_147 := i_125.ext hx9
                have i_148 := i_126.ext hx9
                have i_149 := i_127.ext hx9
                have i_150 := i_128.ext hx9
                have i_151 := i_129.ext hx9
                have i_152 := i_130.ext hx9
                have i_153 := i_131.ext hx9
                have i_154 := i_132.ext hx9
                have i_155 := i_133.ext hx9
                have i_156 := i_134.ext hx9
                have i_157 := i_135.ext hx9
                have i_158 := i_136.ext hx9
                have i_159 := i_137.ext hx9
                have i_160 := i_138.ext hx9
                have i_161 := i_139.ext hx9
                have i_162 := i_140.ext hx9
                obtain ⟨K, L, hK9, hL9⟩ : ∃ (K : Kp) (L : List Nat), K = K9 ∧ L = L9 := ⟨_, _, rfl, rfl⟩
                subst hK9
                subst hL9
                have hP : va_P D vwCl ([(xa, .inr (11, [.ref x0, .int (nI x1), .ref x2, .int (nI x3), .ref x4, .ref x5, .ref x6, .int x7, .ref x8, .int x9, .int x10]))] ++ va_pl L M_141) H_112 := hP
                have hD : va_D A ([(xa, .inr (11, [.ref x0, .int (nI x1), .ref x2, .int (nI x3), .ref x4, .ref x5, .ref x6, .int x7, .ref x8, .int x9, .int x10]))] ++ va_pl L M_141) := hD
                obtain ⟨f163, hM163, hf163⟩ := hW.open_18 i_157
                obtain ⟨n165, v165_0, v165_1, v165_2, hM165, h165_1, h165_2, y165_0⟩ := hW.open_3 i_142
                refine pg_astq (r := (RX3, TX3, 3)) hx hb hK hP hD hS i_157.1 4 3 hM163 rfl i_142.1 hM165 rfl (inbE k2 999 1000 (by decide) (by decide) c_32 (Int32.not_lt.mp c_33)) dX11_leaf_76 (fun H_164 locs hP hD hS => ?_)
                obtain ⟨M_166, eM_166⟩ : ∃ M1 : Hp, M1 = va_up M_141 v27_12 (.inl (cy 18, 1000, .inr (.inr (.inr (.inr (va_up f163 (k2 : Int32).toNatClampNeg (some q_110))))))) := ⟨_, rfl⟩
                have hP : va_P D vwCl ([(xa, .inr (11, [.ref x0, .int (nI x1), .ref x2, .int (nI x3), .ref x4, .ref x5, .ref x6, .int x7, .ref x8, .int x9, .int x10]))] ++ va_pl L M_166) H_164 := by rw [eM_166]; exact hP
                have hD : va_D A ([(xa, .inr (11, [.ref x0, .int (nI x1), .ref x2, .int (nI x3), .ref x4, .ref x5, .ref x6, .int x7, .ref x8, .int x9, .int x10]))] ++ va_pl L M_166) := by rw [eM_166]; exact hD
                have hW : WOK cy K L M_166 := by rw [eM_166]; exact hW.up_18 i_157 ⟨_, rfl, (upN hf163 i_142)⟩
                have hF : fr K0 L0 [10, 18] M0 M_166 := by rw [eM_166]; exact hF.upX hX0 i_157 (by decide)
                have hT10 : fT 10 K0 L0 [1, 2] M0 M_166 := by rw [eM_166]; exact hT10.neX hX0 i_157 (by decide)
                have hM_167 : M_166 v27_12 = .inl (cy 18, 1000, .inr (.inr (.inr (.inr (va_up f163 (k2 : Int32).toNatClampNeg (some q_110)))))) := by rw [eM_166]; exact va_up_self _ _ _
                have hM_168 : M_166 b_5 = .inr (2, [.int v27_0, .int v27_1, .int v27_2, .ref v27_3, .int (nI v27_4), .int (nI v27_5), .ref v27_6, .ref v27_7, .ref v27_8, .int (nI v27_9), .ref v27_10, .int (nI v27_11), .ref v27_12, .ref v27_13, .long v27_14, .int v27_15, .ref v27_16, .ref v27_17, .ref v27_18, .ref v27_19]) := by rw [eM_166, va_up_ne _ _ (i_151.neT i_157 (by decide))]; exact hM_144
                have hM_169 : M_166 q_110 = .inr (3, [.int v165_0, .ref v165_1, .int (nI v165_2)]) := by rw [eM_166, va_up_ne _ _ (i_142.neT i_157 (by decide))]; exact hM165
                have hf_171 : ∀ j, j < 1000 → iskN K L ((va_up f163 (k2 : Int32).toNatClampNeg (some q_110)) j) 3 0 := (upN hf163 i_142)
                obtain ⟨f_170, ef_170⟩ : ∃ f : Nat → Option Nat, f = va_up f163 (k2 : Int32).toNatClampNeg (some q_110) := ⟨_, rfl⟩
                rw [← ef_170] at hM_167 hf_171
                have hk_172 : f_170 (k2 : Int32).toNatClampNeg = some q_110 := by rw [ef_170]; exact va_up_self _ _ _
                clear ef_170
                refine lv_aload hx hb dX11_leaf_77 (lv_at hl 0 rfl) ?_
                refine pg_get (D := D) (ci := 2) (v := .ref v27_18) (C := RX2) (T := TX2) (N := 20) hx hb hg inG2 hown hK hP i_151.1 hM_168 rfl 18 (by decide) (hg _ wd_378) (fun _ h9 => h9) rfl dX11_leaf_79 ?_
                obtain ⟨v173_0, v173_1, v173_2, hM173, h173_0⟩ := hW.open_10 i_161
                have hPc : va_P D vwCl ([] ++ va_pl L M_166) H_164 := hP.part (cx := []) [] rfl
                have hDc : va_D A ([] ++ va_pl L M_166) := hD.part (cx := []) [] (by decide) rfl
                have hFc : ∀ q, va_A ([] ++ va_pl L M_166) H_164.size q → A q := pg_free hDc hS hA
                refine va_callv (va_runV (As := []) (rest := []) ⟨hx, hb, hml, hown, hg⟩ (s_X10_clear l D cy K L M_166 H_164.size v27_18  hW i_161) (cwV 0 hg (gV wd_379 wd_380 wd_381 wd_114 wd_382) rfl rfl rfl (by decide +kernel) ⟨(Nat.le_trans (Nat.le_of_ble_eq_true rfl) hRf), (Nat.le_trans (Nat.le_of_ble_eq_true rfl) hRl)⟩) ⟨PG.blind, pg_recv hK hP i_161.1 hM173 rfl, fun U hU hW => ⟨rfl, PG.at hPc hK hDc hN hU hW⟩⟩ rfl rfl hl.1 rfl (lv_room (Nat.le_of_ble_eq_true rfl)) dX11_leaf_82 ⟨(Nat.le_trans (Nat.le_of_ble_eq_true rfl) hRc), (Nat.le_trans (Nat.le_of_ble_eq_true rfl) hRs)⟩) hS (fun q _ h => hFc q h) hFc (fun M_176 t H_174 locs ht hvm hw hB hz1 hk1 hS => ?_)
                obtain ⟨hW, hF2, gT10, hp_177⟩ := hw
                obtain ⟨hP1, hD1⟩ := hB
                rw [ht] at hP1
                obtain ⟨hP, hD⟩ := va_joinP (X := [(xa, .inr (11, [.ref x0, .int (nI x1), .ref x2, .int (nI x3), .ref x4, .ref x5, .ref x6, .int x7, .ref x8, .int x9, .int x10]))]) (cx := []) (wr := [(xa, .inr (11, [.ref x0, .int (nI x1), .ref x2, .int (nI x3), .ref x4, .ref x5, .ref x6, .int x7, .ref x8, .int x9, .int x10]))]) (rx := []) (pl := va_pl L M_166) (pl1 := va_pl L M_176) hP hD [] [0] rfl rfl (by decide) (by decide) hk1 hFc hP1 hD1
                have hP : va_P D vwCl ([(xa, .inr (11, [.ref x0, .int (nI x1), .ref x2, .int (nI x3), .ref x4, .ref x5, .ref x6, .int x7, .ref x8, .int x9, .int x10]))] ++ va_pl L M_176) H_174 := hP
                have hD : va_D A ([(xa, .inr (11, [.ref x0, .int (nI x1), .ref x2, .int (nI x3), .ref x4, .ref x5, .ref x6, .int x7, .ref x8, .int x9, .int x10]))] ++ va_pl L M_176) := hD
                have hM_178 : M_176 v27_12 = .inl (cy 18, 1000, .inr (.inr (.inr (.inr (f_170))))) := (hF2.at i_157 (by decide)).trans hM_167
                have hM_179 : M_176 b_5 = .inr (2, [.int v27_0, .int v27_1, .int v27_2, .ref v27_3, .int (nI v27_4), .int (nI v27_5), .ref v27_6, .ref v27_7, .ref v27_8, .int (nI v27_9), .ref v27_10, .int (nI v27_11), .ref v27_12, .ref v27_13, .long v27_14, .int v27_15, .ref v27_16, .ref v27_17, .ref v27_18, .ref v27_19]) := (hF2.at i_151 (by decide)).trans hM_168
                have hM_180 : M_176 q_110 = .inr (3, [.int v165_0, .ref v165_1, .int (nI v165_2)]) := (hF2.at i_142 (by decide)).trans hM_169
                have hF : fr K0 L0 [10, 18] M0 M_176 := hF.trX hX0 hF2 (by decide)
                have hT10 : fT 10 K0 L0 [1, 2] M0 M_176 := hT10.trX hX0 gT10 (by decide)
                refine lv_aload_n hx hb dX11_leaf_85 rfl (lv_at hl 1 rfl) ?_
                refine lv_iload hx hb dX11_leaf_86 (lv_at hl 5 rfl) ?_
                have hPc := hP.sub (ws' := [(xa, .inr (11, [.ref x0, .int (nI x1), .ref x2, .int (nI x3), .ref x4, .ref x5, .ref x6, .int x7, .ref x8, .int x9, .int x10]))]) [0] rfl
                have hDc := hD.sub (ws' := [(xa, .inr (11, [.ref x0, .int (nI x1), .ref x2, .int (nI x3), .ref x4, .ref x5, .ref x6, .int x7, .ref x8, .int x9, .int x10]))]) [0] (by decide) rfl
                have hKc := hK.sub (tys' := []) [] rfl
                have hFc := va_free (wc := [(xa, .inr (11, [.ref x0, .int (nI x1), .ref x2, .int (nI x3), .ref x4, .ref x5, .ref x6, .int x7, .ref x8, .int x9, .int x10]))]) hD hS hA [0] rfl
                refine va_calli (va_runV (As := [.int 1]) (rest := []) ⟨hx, hb, hml, hown, hg⟩ (k_accept l D H_174.size xa x0 (nI x1) x2 (nI x3) x4 x5 x6 x7 x8 x9 x10 1) (cwV 1 hg (gV wd_356 wd_357 wd_358 wd_3 wd_359) rfl rfl rfl (by decide +kernel) ⟨(Nat.le_trans (Nat.le_of_ble_eq_true rfl) hRf), (Nat.le_trans (Nat.le_of_ble_eq_true rfl) hRl)⟩) ⟨Pr.blind, va_recv hK hP (ci := 11) (q0 := 0) rfl rfl, fun U hU hW => ⟨rfl, Pr.at hPc hKc hDc hN hU hW⟩⟩ rfl rfl hl.1 rfl (lv_room (Nat.le_of_ble_eq_true rfl)) dX11_leaf_88 ⟨(Nat.le_trans (Nat.le_of_ble_eq_true rfl) hRc), (Nat.le_trans (Nat.le_of_ble_eq_true rfl) hRs)⟩) hS (fun q _ h => hFc q h) hFc (fun r_182 M_183 t H_181 locs ht hvm hw hB hz1 hk1 hS => ?_)
                have hp_184 := hw
                obtain ⟨hP1, hK1, hD1⟩ := hB
                rw [ht] at hP1
                obtain ⟨hP, hD⟩ := va_joinQ (X := [(xa, .inr (11, [.ref x0, .int (nI x1), .ref x2, .int (nI x3), .ref x4, .ref x5, .ref x6, .int x7, .ref x8, .int x9, .int x10]))]) (cx := [(xa, .inr (11, [.ref x0, .int (nI x1), .ref x2, .int (nI x3), .ref x4, .ref x5, .ref x6, .int x7, .ref x8, .int x9, .int x10]))]) (wr := []) (w1 := [(xa, .inr (11, [.ref x0, .int (nI x1), .ref x2, .int (nI x3), .ref x4, .ref x5, .ref x6, .int x7, .ref x8, .int 0, .int (-1)]))]) (pl := va_pl L M_176) hP hD [0] [] rfl rfl (by decide) (by decide) hk1 hFc hP1 hD1
                have hP : va_P D vwCl ([(xa, .inr (11, [.ref x0, .int (nI x1), .ref x2, .int (nI x3), .ref x4, .ref x5, .ref x6, .int x7, .ref x8, .int 0, .int (-1)]))] ++ va_pl L M_176) H_181 := hP
                have hD : va_D A ([(xa, .inr (11, [.ref x0, .int (nI x1), .ref x2, .int (nI x3), .ref x4, .ref x5, .ref x6, .int x7, .ref x8, .int 0, .int (-1)]))] ++ va_pl L M_176) := hD
                have hq := Eq.symm hp_184
                subst hq
                refine W.widen (k := 2) (n := 9) (Nat.le_of_ble_eq_true rfl) (Nat.le_of_ble_eq_true rfl) ?_
                rw [hQ]
                exact W.iret (v := 1) hx hb hr (fun t ht hW9 => ⟨⟨1, (K, L, M_176), rfl, ⟨hX0, hW, hF, hT10, trivial⟩, ⟨0, (-1), by rw [ht]; exact hP, hD⟩⟩, hS.F ht⟩) hS.2.2 dX11_leaf_91
              · have hz := rfl (a := 0)
                refine va_new (ci := 3) (fs := [.int 0, .null, .int 0]) (C := RX3) (T := TX3) (N := 3) hx hb hg inG3 tyX3 tyX3_ok hown (hg _ wd_592) (hg _ wd_593) (hg _ wd_39) hK hP hD hS hA rfl dfX3 (Nat.le_trans (Nat.le_of_ble_eq_true rfl) hRc) (Nat.le_trans (Nat.le_of_ble_eq_true rfl) hRs) dX11_leaf_66 (fun q_185 H_186 hP hD hS => ?_)
                have hP : va_P D vwCl ([(xa, .inr (11, [.ref x0, .int (nI x1), .ref x2, .int (nI x3), .ref x4, .ref x5, .ref x6, .int x7, .ref x8, .int x9, .int x10])), (q_185, .inr (3, [.int 0, .null, .int 0]))] ++ va_pl L M) H_186 := hP.swap
                have hD : va_D A ([(xa, .inr (11, [.ref x0, .int (nI x1), .ref x2, .int (nI x3), .ref x4, .ref x5, .ref x6, .int x7, .ref x8, .int x9, .int x10])), (q_185, .inr (3, [.int 0, .null, .int 0]))] ++ va_pl L M) := hD.swap
                refine W.widen (k := 1) (n := 3) (Nat.le_of_ble_eq_true rfl) (Nat.le_of_ble_eq_true rfl) ?_
                refine lv_dup hx hb dX11_leaf_69 rfl ?_
                refine lv_iload_n hx hb dX11_leaf_70 rfl (lv_at hl 4 rfl) ?_
                refine lv_iload hx hb dX11_leaf_71 (lv_at hl 5 rfl) ?_
                have hPc := hP.sub (ws' := [(q_185, .inr (3, [.int 0, .null, .int 0]))]) [1] rfl
                have hDc := hD.sub (ws' := [(q_185, .inr (3, [.int 0, .null, .int 0]))]) [1] (by decide) rfl
                have hKc := hK.sub (tys' := []) [] rfl
                have hFc := va_free (wc := [(q_185, .inr (3, [.int 0, .null, .int 0]))]) hD hS hA [1] rfl
                refine va_callv (va_runI (As := [.int k3, .int 2]) (rest := [.ref q_185, .int k2, .ref v27_12]) ⟨hx, hb, hml, hown, hg⟩ (k_Leaf_2 l D H_186.size q_185 k3) (cwI 2 hg (gB wd_594) rfl rfl rfl (hg _ wd_39) (hg _ wd_595) (hg _ wd_596) rfl (by decide +kernel) ⟨(Nat.le_trans (Nat.le_of_ble_eq_true rfl) hRf), (Nat.le_trans (Nat.le_of_ble_eq_true rfl) hRl)⟩) ⟨Pr.blind, fun U hU hW => ⟨rfl, Pr.at hPc hKc hDc hN hU hW⟩⟩ rfl rfl hl.1 rfl (lv_room (Nat.le_of_ble_eq_true rfl)) dX11_leaf_73 ⟨(Nat.le_trans (Nat.le_of_ble_eq_true rfl) hRc), (Nat.le_trans (Nat.le_of_ble_eq_true rfl) hRs)⟩) hS (fun q _ h => hFc q h) hFc (fun M_189 t H_187 locs ht hvm hw hB hz1 hk1 hS => ?_)
                have hp_190 := hw
                obtain ⟨e0_191, c0_192, hP1, hK1, hD1⟩ := hB
                rw [ht] at hP1
                have hK1 := va_K.moved hvm.symm hK1
                obtain ⟨hP, hD⟩ := va_joinQ (X := [(xa, .inr (11, [.ref x0, .int (nI x1), .ref x2, .int (nI x3), .ref x4, .ref x5, .ref x6, .int x7, .ref x8, .int x9, .int x10])), (q_185, .inr (3, [.int 0, .null, .int 0]))]) (cx := [(q_185, .inr (3, [.int 0, .null, .int 0]))]) (wr := [(xa, .inr (11, [.ref x0, .int (nI x1), .ref x2, .int (nI x3), .ref x4, .ref x5, .ref x6, .int x7, .ref x8, .int x9, .int x10]))]) (w1 := [(q_185, .inr (3, [.int k3, .ref e0_191, .int 0])), (e0_191, .inl (c0_192, 2, .inl (fun _ => 0)))]) (pl := va_pl L M) hP hD [1] [0] rfl rfl (by decide) (by decide) hk1 hFc hP1 hD1
                have hP : va_P D vwCl ([(xa, .inr (11, [.ref x0, .int (nI x1), .ref x2, .int (nI x3), .ref x4, .ref x5, .ref x6, .int x7, .ref x8, .int x9, .int x10])), (q_185, .inr (3, [.int k3, .ref e0_191, .int 0])), (e0_191, .inl (c0_192, 2, .inl (fun _ => 0)))] ++ va_pl L M) H_187 := hP
                have hD : va_D A ([(xa, .inr (11, [.ref x0, .int (nI x1), .ref x2, .int (nI x3), .ref x4, .ref x5, .ref x6, .int x7, .ref x8, .int x9, .int x10])), (q_185, .inr (3, [.int k3, .ref e0_191, .int 0])), (e0_191, .inl (c0_192, 2, .inl (fun _ => 0)))] ++ va_pl L M) := hD
                have hK2 := hK.app hK1
                obtain rfl : c0_192 = cy 14 := cls_eq hK2 10 0 rfl rfl
                refine W.widen (k := 2) (n := 5) (Nat.le_of_ble_eq_true rfl) (Nat.le_of_ble_eq_true rfl) ?_
                have hP : va_P D vwCl (([(xa, .inr (11, [.ref x0, .int (nI x1), .ref x2, .int (nI x3), .ref x4, .ref x5, .ref x6, .int x7, .ref x8, .int x9, .int x10])), (q_185, .inr (3, [.int k3, .ref e0_191, .int 0]))] ++ [(e0_191, .inl ((cy 14), 2, .inl (fun _ => 0)))]) ++ va_pl L M) H_187 := hP.part (cx := [(xa, .inr (11, [.ref x0, .int (nI x1), .ref x2, .int (nI x3), .ref x4, .ref x5, .ref x6, .int x7, .ref x8, .int x9, .int x10])), (q_185, .inr (3, [.int k3, .ref e0_191, .int 0]))] ++ [(e0_191, .inl ((cy 14), 2, .inl (fun _ => 0)))]) [0, 1, 2] rfl
                have hD : va_D A (([(xa, .inr (11, [.ref x0, .int (nI x1), .ref x2, .int (nI x3), .ref x4, .ref x5, .ref x6, .int x7, .ref x8, .int x9, .int x10])), (q_185, .inr (3, [.int k3, .ref e0_191, .int 0]))] ++ [(e0_191, .inl ((cy 14), 2, .inl (fun _ => 0)))]) ++ va_pl L M) := hD.part (cx := [(xa, .inr (11, [.ref x0, .int (nI x1), .ref x2, .int (nI x3), .ref x4, .ref x5, .ref x6, .int x7, .ref x8, .int x9, .int x10])), (q_185, .inr (3, [.int k3, .ref e0_191, .int 0]))] ++ [(e0_191, .inl ((cy 14), 2, .inl (fun _ => 0)))]) [0, 1, 2] (by decide) rfl
                obtain ⟨K9, L9, M_193, hx9, i_194, hW, hP, hD, hM_195, hfr9, hq9⟩ := adoptE 53 2 hP hD hW (fun K' L' x i => (⟨_, rfl⟩ : gd_53 cy K' L' 2 _))
                have hM_197 : M_193 b_5 = .inr (2, [.int v27_0, .int v27_1, .int v27_2, .ref v27_3, .int (nI v27_4), .int (nI v27_5), .ref v27_6, .ref v27_7, .ref v27_8, .int (nI v27_9), .ref v27_10, .int (nI v27_11), .ref v27_12, .ref v27_13, .long v27_14, .int v27_15, .ref v27_16, .ref v27_17, .ref v27_18, .ref v27_19]) := (hfr9 _ hb_10.1).trans hM27
                have hF : fr K0 L0 [10, 18] M0 M_193 := hF.adX hX0 hfr9
                have hT10 : fT 10 K0 L0 [1, 2] M0 M_193 := hT10.adX hX0 hfr9
                have hX0 := hX0.tr hx9
                have i_198 := i0.ext hx9
                have i_199 := i2.ext hx9
                have i_200 := i4.ext hx9
                have i_201 := i5.ext hx9
                have i_202 := i6.ext hx9
                have i_203 := i8.ext hx9
                have i_204 := hb_10.ext hx9
                have i_205 := h27_3.ext hx9
                have i_206 := h27_6.ext hx9
                have i_207 := h27_7.ext hx9
                have i_208 := h27_8.ext hx9
                have i_209 := h27_10.ext hx9
                have i_210 := h27_12.ext hx9
                have i_211 := h27_13.ext hx9
                have i_212 := h27_16.ext hx9
                have i_213 := h27_17.ext hx9
                have i_214 := h27_18.ext hx9
                have i_215 := h27_19.ext hx9
                obtain ⟨K, L, hK9, hL9⟩ : ∃ (K : Kp) (L : List Nat), K = K9 ∧ L = L9 := ⟨_, _, rfl, rfl⟩
                subst hK9
                subst hL9
                have hP : va_P D vwCl ([(xa, .inr (11, [.ref x0, .int (nI x1), .ref x2, .int (nI x3), .ref x4, .ref x5, .ref x6, .int x7, .ref x8, .int x9, .int x10])), (q_185, .inr (3, [.int k3, .ref e0_191, .int 0]))] ++ va_pl L M_193) H_187 := hP
                have hD : va_D A ([(xa, .inr (11, [.ref x0, .int (nI x1), .ref x2, .int (nI x3), .ref x4, .ref x5, .ref x6, .int x7, .ref x8, .int x9, .int x10])), (q_185, .inr (3, [.int k3, .ref e0_191, .int 0]))] ++ va_pl L M_193) := hD
                have hP : va_P D vwCl (([(xa, .inr (11, [.ref x0, .int (nI x1), .ref x2, .int (nI x3), .ref x4, .ref x5, .ref x6, .int x7, .ref x8, .int x9, .int x10]))] ++ [(q_185, .inr (3, [.int k3, .ref e0_191, .int 0]))]) ++ va_pl L M_193) H_187 := hP.part (cx := [(xa, .inr (11, [.ref x0, .int (nI x1), .ref x2, .int (nI x3), .ref x4, .ref x5, .ref x6, .int x7, .ref x8, .int x9, .int x10]))] ++ [(q_185, .inr (3, [.int k3, .ref e0_191, .int 0]))]) [0, 1] rfl
                have hD : va_D A (([(xa, .inr (11, [.ref x0, .int (nI x1), .ref x2, .int (nI x3), .ref x4, .ref x5, .ref x6, .int x7, .ref x8, .int x9, .int x10]))] ++ [(q_185, .inr (3, [.int k3, .ref e0_191, .int 0]))]) ++ va_pl L M_193) := hD.part (cx := [(xa, .inr (11, [.ref x0, .int (nI x1), .ref x2, .int (nI x3), .ref x4, .ref x5, .ref x6, .int x7, .ref x8, .int x9, .int x10]))] ++ [(q_185, .inr (3, [.int k3, .ref e0_191, .int 0]))]) [0, 1] (by decide) rfl
                obtain ⟨K9, L9, M_216, hx9, i_217, hW, hP, hD, hM_218, hfr9, hq9⟩ := adoptE 3 0 hP hD hW (fun K' L' x i => (⟨2, k3, e0_191, 0, rfl, i_194.ext x, (by omega), (by decide)⟩ : gd_3 K' L' _))
                have hM_219 : M_216 b_5 = .inr (2, [.int v27_0, .int v27_1, .int v27_2, .ref v27_3, .int (nI v27_4), .int (nI v27_5), .ref v27_6, .ref v27_7, .ref v27_8, .int (nI v27_9), .ref v27_10, .int (nI v27_11), .ref v27_12, .ref v27_13, .long v27_14, .int v27_15, .ref v27_16, .ref v27_17, .ref v27_18, .ref v27_19]) := (hfr9 _ i_204.1).trans hM_197
                have hF : fr K0 L0 [10, 18] M0 M_216 := hF.adX hX0 hfr9
                have hT10 : fT 10 K0 L0 [1, 2] M0 M_216 := hT10.adX hX0 hfr9
                have hX0 := hX0.tr hx9
                have i_220 := i_198.ext hx9
                have i_221 := i_199.ext hx9
                have i_222 := i_200.ext hx9
                have i_223 := i_201.ext hx9
                have i_224 := i_202.ext hx9
                have i_225 := i_203.ext hx9
                have i_226 := i_204.ext hx9
                have i_227 := i_205.ext hx9
                have i_228 := i_206.ext hx9
                have i_229 := i_207.ext hx9
                have i_230 := i_208.ext hx9
                have i_231 := i_209.ext hx9
                have i_232 := i_210.ext hx9
                have i_233 := i_211.ext hx9
                have i_234 := i_212.ext hx9
                have i_235 := i_213.ext hx9
                have i_236 := i_214.ext hx9
                have i_237 := i_215.ext hx9
                obtain ⟨K, L, hK9, hL9⟩ : ∃ (K : Kp) (L : List Nat), K = K9 ∧ L = L9 := ⟨_, _, rfl, rfl⟩
                subst hK9
                subst hL9
                have hP : va_P D vwCl ([(xa, .inr (11, [.ref x0, .int (nI x1), .ref x2, .int (nI x3), .ref x4, .ref x5, .ref x6, .int x7, .ref x8, .int x9, .int x10]))] ++ va_pl L M_216) H_187 := hP
                have hD : va_D A ([(xa, .inr (11, [.ref x0, .int (nI x1), .ref x2, .int (nI x3), .ref x4, .ref x5, .ref x6, .int x7, .ref x8, .int x9, .int x10]))] ++ va_pl L M_216) := hD
                obtain ⟨f238, hM238, hf238⟩ := hW.open_18 i_232
                obtain ⟨n240, v240_0, v240_1, v240_2, hM240, h240_1, h240_2, y240_0⟩ := hW.open_3 i_217
                refine pg_astq (r := (RX3, TX3, 3)) hx hb hK hP hD hS i_232.1 4 3 hM238 rfl i_217.1 hM240 rfl (inbE k2 999 1000 (by decide) (by decide) c_32 (Int32.not_lt.mp c_33)) dX11_leaf_76 (fun H_239 locs hP hD hS => ?_)
                obtain ⟨M_241, eM_241⟩ : ∃ M1 : Hp, M1 = va_up M_216 v27_12 (.inl (cy 18, 1000, .inr (.inr (.inr (.inr (va_up f238 (k2 : Int32).toNatClampNeg (some q_185))))))) := ⟨_, rfl⟩
                have hP : va_P D vwCl ([(xa, .inr (11, [.ref x0, .int (nI x1), .ref x2, .int (nI x3), .ref x4, .ref x5, .ref x6, .int x7, .ref x8, .int x9, .int x10]))] ++ va_pl L M_241) H_239 := by rw [eM_241]; exact hP
                have hD : va_D A ([(xa, .inr (11, [.ref x0, .int (nI x1), .ref x2, .int (nI x3), .ref x4, .ref x5, .ref x6, .int x7, .ref x8, .int x9, .int x10]))] ++ va_pl L M_241) := by rw [eM_241]; exact hD
                have hW : WOK cy K L M_241 := by rw [eM_241]; exact hW.up_18 i_232 ⟨_, rfl, (upN hf238 i_217)⟩
                have hF : fr K0 L0 [10, 18] M0 M_241 := by rw [eM_241]; exact hF.upX hX0 i_232 (by decide)
                have hT10 : fT 10 K0 L0 [1, 2] M0 M_241 := by rw [eM_241]; exact hT10.neX hX0 i_232 (by decide)
                have hM_242 : M_241 v27_12 = .inl (cy 18, 1000, .inr (.inr (.inr (.inr (va_up f238 (k2 : Int32).toNatClampNeg (some q_185)))))) := by rw [eM_241]; exact va_up_self _ _ _
                have hM_243 : M_241 b_5 = .inr (2, [.int v27_0, .int v27_1, .int v27_2, .ref v27_3, .int (nI v27_4), .int (nI v27_5), .ref v27_6, .ref v27_7, .ref v27_8, .int (nI v27_9), .ref v27_10, .int (nI v27_11), .ref v27_12, .ref v27_13, .long v27_14, .int v27_15, .ref v27_16, .ref v27_17, .ref v27_18, .ref v27_19]) := by rw [eM_241, va_up_ne _ _ (i_226.neT i_232 (by decide))]; exact hM_219
                have hM_244 : M_241 q_185 = .inr (3, [.int v240_0, .ref v240_1, .int (nI v240_2)]) := by rw [eM_241, va_up_ne _ _ (i_217.neT i_232 (by decide))]; exact hM240
                have hf_246 : ∀ j, j < 1000 → iskN K L ((va_up f238 (k2 : Int32).toNatClampNeg (some q_185)) j) 3 0 := (upN hf238 i_217)
                obtain ⟨f_245, ef_245⟩ : ∃ f : Nat → Option Nat, f = va_up f238 (k2 : Int32).toNatClampNeg (some q_185) := ⟨_, rfl⟩
                rw [← ef_245] at hM_242 hf_246
                have hk_247 : f_245 (k2 : Int32).toNatClampNeg = some q_185 := by rw [ef_245]; exact va_up_self _ _ _
                clear ef_245
                refine lv_aload hx hb dX11_leaf_77 (lv_at hl 0 rfl) ?_
                refine pg_get (D := D) (ci := 2) (v := .ref v27_18) (C := RX2) (T := TX2) (N := 20) hx hb hg inG2 hown hK hP i_226.1 hM_243 rfl 18 (by decide) (hg _ wd_378) (fun _ h9 => h9) rfl dX11_leaf_79 ?_
                obtain ⟨v248_0, v248_1, v248_2, hM248, h248_0⟩ := hW.open_10 i_236
                have hPc : va_P D vwCl ([] ++ va_pl L M_241) H_239 := hP.part (cx := []) [] rfl
                have hDc : va_D A ([] ++ va_pl L M_241) := hD.part (cx := []) [] (by decide) rfl
                have hFc : ∀ q, va_A ([] ++ va_pl L M_241) H_239.size q → A q := pg_free hDc hS hA
                refine va_callv (va_runV (As := []) (rest := []) ⟨hx, hb, hml, hown, hg⟩ (s_X10_clear l D cy K L M_241 H_239.size v27_18  hW i_236) (cwV 0 hg (gV wd_379 wd_380 wd_381 wd_114 wd_382) rfl rfl rfl (by decide +kernel) ⟨(Nat.le_trans (Nat.le_of_ble_eq_true rfl) hRf), (Nat.le_trans (Nat.le_of_ble_eq_true rfl) hRl)⟩) ⟨PG.blind, pg_recv hK hP i_236.1 hM248 rfl, fun U hU hW => ⟨rfl, PG.at hPc hK hDc hN hU hW⟩⟩ rfl rfl hl.1 rfl (lv_room (Nat.le_of_ble_eq_true rfl)) dX11_leaf_82 ⟨(Nat.le_trans (Nat.le_of_ble_eq_true rfl) hRc), (Nat.le_trans (Nat.le_of_ble_eq_true rfl) hRs)⟩) hS (fun q _ h => hFc q h) hFc (fun M_251 t H_249 locs ht hvm hw hB hz1 hk1 hS => ?_)
                obtain ⟨hW, hF2, gT10, hp_252⟩ := hw
                obtain ⟨hP1, hD1⟩ := hB
                rw [ht] at hP1
                obtain ⟨hP, hD⟩ := va_joinP (X := [(xa, .inr (11, [.ref x0, .int (nI x1), .ref x2, .int (nI x3), .ref x4, .ref x5, .ref x6, .int x7, .ref x8, .int x9, .int x10]))]) (cx := []) (wr := [(xa, .inr (11, [.ref x0, .int (nI x1), .ref x2, .int (nI x3), .ref x4, .ref x5, .ref x6, .int x7, .ref x8, .int x9, .int x10]))]) (rx := []) (pl := va_pl L M_241) (pl1 := va_pl L M_251) hP hD [] [0] rfl rfl (by decide) (by decide) hk1 hFc hP1 hD1
                have hP : va_P D vwCl ([(xa, .inr (11, [.ref x0, .int (nI x1), .ref x2, .int (nI x3), .ref x4, .ref x5, .ref x6, .int x7, .ref x8, .int x9, .int x10]))] ++ va_pl L M_251) H_249 := hP
                have hD : va_D A ([(xa, .inr (11, [.ref x0, .int (nI x1), .ref x2, .int (nI x3), .ref x4, .ref x5, .ref x6, .int x7, .ref x8, .int x9, .int x10]))] ++ va_pl L M_251) := hD
                have hM_253 : M_251 v27_12 = .inl (cy 18, 1000, .inr (.inr (.inr (.inr (f_245))))) := (hF2.at i_232 (by decide)).trans hM_242
                have hM_254 : M_251 b_5 = .inr (2, [.int v27_0, .int v27_1, .int v27_2, .ref v27_3, .int (nI v27_4), .int (nI v27_5), .ref v27_6, .ref v27_7, .ref v27_8, .int (nI v27_9), .ref v27_10, .int (nI v27_11), .ref v27_12, .ref v27_13, .long v27_14, .int v27_15, .ref v27_16, .ref v27_17, .ref v27_18, .ref v27_19]) := (hF2.at i_226 (by decide)).trans hM_243
                have hM_255 : M_251 q_185 = .inr (3, [.int v240_0, .ref v240_1, .int (nI v240_2)]) := (hF2.at i_217 (by decide)).trans hM_244
                have hF : fr K0 L0 [10, 18] M0 M_251 := hF.trX hX0 hF2 (by decide)
                have hT10 : fT 10 K0 L0 [1, 2] M0 M_251 := hT10.trX hX0 gT10 (by decide)
                refine lv_aload_n hx hb dX11_leaf_85 rfl (lv_at hl 1 rfl) ?_
                refine lv_iload hx hb dX11_leaf_86 (lv_at hl 5 rfl) ?_
                have hPc := hP.sub (ws' := [(xa, .inr (11, [.ref x0, .int (nI x1), .ref x2, .int (nI x3), .ref x4, .ref x5, .ref x6, .int x7, .ref x8, .int x9, .int x10]))]) [0] rfl
                have hDc := hD.sub (ws' := [(xa, .inr (11, [.ref x0, .int (nI x1), .ref x2, .int (nI x3), .ref x4, .ref x5, .ref x6, .int x7, .ref x8, .int x9, .int x10]))]) [0] (by decide) rfl
                have hKc := hK.sub (tys' := []) [] rfl
                have hFc := va_free (wc := [(xa, .inr (11, [.ref x0, .int (nI x1), .ref x2, .int (nI x3), .ref x4, .ref x5, .ref x6, .int x7, .ref x8, .int x9, .int x10]))]) hD hS hA [0] rfl
                refine va_calli (va_runV (As := [.int 2]) (rest := []) ⟨hx, hb, hml, hown, hg⟩ (k_accept l D H_249.size xa x0 (nI x1) x2 (nI x3) x4 x5 x6 x7 x8 x9 x10 2) (cwV 1 hg (gV wd_356 wd_357 wd_358 wd_3 wd_359) rfl rfl rfl (by decide +kernel) ⟨(Nat.le_trans (Nat.le_of_ble_eq_true rfl) hRf), (Nat.le_trans (Nat.le_of_ble_eq_true rfl) hRl)⟩) ⟨Pr.blind, va_recv hK hP (ci := 11) (q0 := 0) rfl rfl, fun U hU hW => ⟨rfl, Pr.at hPc hKc hDc hN hU hW⟩⟩ rfl rfl hl.1 rfl (lv_room (Nat.le_of_ble_eq_true rfl)) dX11_leaf_88 ⟨(Nat.le_trans (Nat.le_of_ble_eq_true rfl) hRc), (Nat.le_trans (Nat.le_of_ble_eq_true rfl) hRs)⟩) hS (fun q _ h => hFc q h) hFc (fun r_257 M_258 t H_256 locs ht hvm hw hB hz1 hk1 hS => ?_)
                have hp_259 := hw
                obtain ⟨hP1, hK1, hD1⟩ := hB
                rw [ht] at hP1
                obtain ⟨hP, hD⟩ := va_joinQ (X := [(xa, .inr (11, [.ref x0, .int (nI x1), .ref x2, .int (nI x3), .ref x4, .ref x5, .ref x6, .int x7, .ref x8, .int x9, .int x10]))]) (cx := [(xa, .inr (11, [.ref x0, .int (nI x1), .ref x2, .int (nI x3), .ref x4, .ref x5, .ref x6, .int x7, .ref x8, .int x9, .int x10]))]) (wr := []) (w1 := [(xa, .inr (11, [.ref x0, .int (nI x1), .ref x2, .int (nI x3), .ref x4, .ref x5, .ref x6, .int x7, .ref x8, .int 0, .int (-1)]))]) (pl := va_pl L M_251) hP hD [0] [] rfl rfl (by decide) (by decide) hk1 hFc hP1 hD1
                have hP : va_P D vwCl ([(xa, .inr (11, [.ref x0, .int (nI x1), .ref x2, .int (nI x3), .ref x4, .ref x5, .ref x6, .int x7, .ref x8, .int 0, .int (-1)]))] ++ va_pl L M_251) H_256 := hP
                have hD : va_D A ([(xa, .inr (11, [.ref x0, .int (nI x1), .ref x2, .int (nI x3), .ref x4, .ref x5, .ref x6, .int x7, .ref x8, .int 0, .int (-1)]))] ++ va_pl L M_251) := hD
                have hq := Eq.symm hp_259
                subst hq
                refine W.widen (k := 2) (n := 9) (Nat.le_of_ble_eq_true rfl) (Nat.le_of_ble_eq_true rfl) ?_
                rw [hQ]
                exact W.iret (v := 2) hx hb hr (fun t ht hW9 => ⟨⟨2, (K, L, M_251), rfl, ⟨hX0, hW, hF, hT10, trivial⟩, ⟨0, (-1), by rw [ht]; exact hP, hD⟩⟩, hS.F ht⟩) hS.2.2 dX11_leaf_91
              · have hz := rfl (a := 0)
                refine va_new (ci := 3) (fs := [.int 0, .null, .int 0]) (C := RX3) (T := TX3) (N := 3) hx hb hg inG3 tyX3 tyX3_ok hown (hg _ wd_592) (hg _ wd_593) (hg _ wd_39) hK hP hD hS hA rfl dfX3 (Nat.le_trans (Nat.le_of_ble_eq_true rfl) hRc) (Nat.le_trans (Nat.le_of_ble_eq_true rfl) hRs) dX11_leaf_66 (fun q_260 H_261 hP hD hS => ?_)
                have hP : va_P D vwCl ([(xa, .inr (11, [.ref x0, .int (nI x1), .ref x2, .int (nI x3), .ref x4, .ref x5, .ref x6, .int x7, .ref x8, .int x9, .int x10])), (q_260, .inr (3, [.int 0, .null, .int 0]))] ++ va_pl L M) H_261 := hP.swap
                have hD : va_D A ([(xa, .inr (11, [.ref x0, .int (nI x1), .ref x2, .int (nI x3), .ref x4, .ref x5, .ref x6, .int x7, .ref x8, .int x9, .int x10])), (q_260, .inr (3, [.int 0, .null, .int 0]))] ++ va_pl L M) := hD.swap
                refine W.widen (k := 1) (n := 3) (Nat.le_of_ble_eq_true rfl) (Nat.le_of_ble_eq_true rfl) ?_
                refine lv_dup hx hb dX11_leaf_69 rfl ?_
                refine lv_iload_n hx hb dX11_leaf_70 rfl (lv_at hl 4 rfl) ?_
                refine lv_iload hx hb dX11_leaf_71 (lv_at hl 5 rfl) ?_
                have hPc := hP.sub (ws' := [(q_260, .inr (3, [.int 0, .null, .int 0]))]) [1] rfl
                have hDc := hD.sub (ws' := [(q_260, .inr (3, [.int 0, .null, .int 0]))]) [1] (by decide) rfl
                have hKc := hK.sub (tys' := []) [] rfl
                have hFc := va_free (wc := [(q_260, .inr (3, [.int 0, .null, .int 0]))]) hD hS hA [1] rfl
                refine va_callv (va_runI (As := [.int k3, .int 3]) (rest := [.ref q_260, .int k2, .ref v27_12]) ⟨hx, hb, hml, hown, hg⟩ (k_Leaf_3 l D H_261.size q_260 k3) (cwI 2 hg (gB wd_594) rfl rfl rfl (hg _ wd_39) (hg _ wd_595) (hg _ wd_596) rfl (by decide +kernel) ⟨(Nat.le_trans (Nat.le_of_ble_eq_true rfl) hRf), (Nat.le_trans (Nat.le_of_ble_eq_true rfl) hRl)⟩) ⟨Pr.blind, fun U hU hW => ⟨rfl, Pr.at hPc hKc hDc hN hU hW⟩⟩ rfl rfl hl.1 rfl (lv_room (Nat.le_of_ble_eq_true rfl)) dX11_leaf_73 ⟨(Nat.le_trans (Nat.le_of_ble_eq_true rfl) hRc), (Nat.le_trans (Nat.le_of_ble_eq_true rfl) hRs)⟩) hS (fun q _ h => hFc q h) hFc (fun M_264 t H_262 locs ht hvm hw hB hz1 hk1 hS => ?_)
                have hp_265 := hw
                obtain ⟨e0_266, c0_267, hP1, hK1, hD1⟩ := hB
                rw [ht] at hP1
                have hK1 := va_K.moved hvm.symm hK1
                obtain ⟨hP, hD⟩ := va_joinQ (X := [(xa, .inr (11, [.ref x0, .int (nI x1), .ref x2, .int (nI x3), .ref x4, .ref x5, .ref x6, .int x7, .ref x8, .int x9, .int x10])), (q_260, .inr (3, [.int 0, .null, .int 0]))]) (cx := [(q_260, .inr (3, [.int 0, .null, .int 0]))]) (wr := [(xa, .inr (11, [.ref x0, .int (nI x1), .ref x2, .int (nI x3), .ref x4, .ref x5, .ref x6, .int x7, .ref x8, .int x9, .int x10]))]) (w1 := [(q_260, .inr (3, [.int k3, .ref e0_266, .int 0])), (e0_266, .inl (c0_267, 3, .inl (fun _ => 0)))]) (pl := va_pl L M) hP hD [1] [0] rfl rfl (by decide) (by decide) hk1 hFc hP1 hD1
                have hP : va_P D vwCl ([(xa, .inr (11, [.ref x0, .int (nI x1), .ref x2, .int (nI x3), .ref x4, .ref x5, .ref x6, .int x7, .ref x8, .int x9, .int x10])), (q_260, .inr (3, [.int k3, .ref e0_266, .int 0])), (e0_266, .inl (c0_267, 3, .inl (fun _ => 0)))] ++ va_pl L M) H_262 := hP
                have hD : va_D A ([(xa, .inr (11, [.ref x0, .int (nI x1), .ref x2, .int (nI x3), .ref x4, .ref x5, .ref x6, .int x7, .ref x8, .int x9, .int x10])), (q_260, .inr (3, [.int k3, .ref e0_266, .int 0])), (e0_266, .inl (c0_267, 3, .inl (fun _ => 0)))] ++ va_pl L M) := hD
                have hK2 := hK.app hK1
                obtain rfl : c0_267 = cy 14 := cls_eq hK2 10 0 rfl rfl
                refine W.widen (k := 2) (n := 6) (Nat.le_of_ble_eq_true rfl) (Nat.le_of_ble_eq_true rfl) ?_
                have hP : va_P D vwCl (([(xa, .inr (11, [.ref x0, .int (nI x1), .ref x2, .int (nI x3), .ref x4, .ref x5, .ref x6, .int x7, .ref x8, .int x9, .int x10])), (q_260, .inr (3, [.int k3, .ref e0_266, .int 0]))] ++ [(e0_266, .inl ((cy 14), 3, .inl (fun _ => 0)))]) ++ va_pl L M) H_262 := hP.part (cx := [(xa, .inr (11, [.ref x0, .int (nI x1), .ref x2, .int (nI x3), .ref x4, .ref x5, .ref x6, .int x7, .ref x8, .int x9, .int x10])), (q_260, .inr (3, [.int k3, .ref e0_266, .int 0]))] ++ [(e0_266, .inl ((cy 14), 3, .inl (fun _ => 0)))]) [0, 1, 2] rfl
                have hD : va_D A (([(xa, .inr (11, [.ref x0, .int (nI x1), .ref x2, .int (nI x3), .ref x4, .ref x5, .ref x6, .int x7, .ref x8, .int x9, .int x10])), (q_260, .inr (3, [.int k3, .ref e0_266, .int 0]))] ++ [(e0_266, .inl ((cy 14), 3, .inl (fun _ => 0)))]) ++ va_pl L M) := hD.part (cx := [(xa, .inr (11, [.ref x0, .int (nI x1), .ref x2, .int (nI x3), .ref x4, .ref x5, .ref x6, .int x7, .ref x8, .int x9, .int x10])), (q_260, .inr (3, [.int k3, .ref e0_266, .int 0]))] ++ [(e0_266, .inl ((cy 14), 3, .inl (fun _ => 0)))]) [0, 1, 2] (by decide) rfl
                obtain ⟨K9, L9, M_268, hx9, i_269, hW, hP, hD, hM_270, hfr9, hq9⟩ := adoptE 53 3 hP hD hW (fun K' L' x i => (⟨_, rfl⟩ : gd_53 cy K' L' 3 _))
                have hM_272 : M_268 b_5 = .inr (2, [.int v27_0, .int v27_1, .int v27_2, .ref v27_3, .int (nI v27_4), .int (nI v27_5), .ref v27_6, .ref v27_7, .ref v27_8, .int (nI v27_9), .ref v27_10, .int (nI v27_11), .ref v27_12, .ref v27_13, .long v27_14, .int v27_15, .ref v27_16, .ref v27_17, .ref v27_18, .ref v27_19]) := (hfr9 _ hb_10.1).trans hM27
                have hF : fr K0 L0 [10, 18] M0 M_268 := hF.adX hX0 hfr9
                have hT10 : fT 10 K0 L0 [1, 2] M0 M_268 := hT10.adX hX0 hfr9
                have hX0 := hX0.tr hx9
                have i_273 := i0.ext hx9
                have i_274 := i2.ext hx9
                have i_275 := i4.ext hx9
                have i_276 := i5.ext hx9
                have i_277 := i6.ext hx9
                have i_278 := i8.ext hx9
                have i_279 := hb_10.ext hx9
                have i_280 := h27_3.ext hx9
                have i_281 := h27_6.ext hx9
                have i_282 := h27_7.ext hx9
                have i_283 := h27_8.ext hx9
                have i_284 := h27_10.ext hx9
                have i_285 := h27_12.ext hx9
                have i_286 := h27_13.ext hx9
                have i_287 := h27_16.ext hx9
                have i_288 := h27_17.ext hx9
                have i_289 := h27_18.ext hx9
                have i_290 := h27_19.ext hx9
                obtain ⟨K, L, hK9, hL9⟩ : ∃ (K : Kp) (L : List Nat), K = K9 ∧ L = L9 := ⟨_, _, rfl, rfl⟩
                subst hK9
                subst hL9
                have hP : va_P D vwCl ([(xa, .inr (11, [.ref x0, .int (nI x1), .ref x2, .int (nI x3), .ref x4, .ref x5, .ref x6, .int x7, .ref x8, .int x9, .int x10])), (q_260, .inr (3, [.int k3, .ref e0_266, .int 0]))] ++ va_pl L M_268) H_262 := hP
                have hD : va_D A ([(xa, .inr (11, [.ref x0, .int (nI x1), .ref x2, .int (nI x3), .ref x4, .ref x5, .ref x6, .int x7, .ref x8, .int x9, .int x10])), (q_260, .inr (3, [.int k3, .ref e0_266, .int 0]))] ++ va_pl L M_268) := hD
                have hP : va_P D vwCl (([(xa, .inr (11, [.ref x0, .int (nI x1), .ref x2, .int (nI x3), .ref x4, .ref x5, .ref x6, .int x7, .ref x8, .int x9, .int x10]))] ++ [(q_260, .inr (3, [.int k3, .ref e0_266, .int 0]))]) ++ va_pl L M_268) H_262 := hP.part (cx := [(xa, .inr (11, [.ref x0, .int (nI x1), .ref x2, .int (nI x3), .ref x4, .ref x5, .ref x6, .int x7, .ref x8, .int x9, .int x10]))] ++ [(q_260, .inr (3, [.int k3, .ref e0_266, .int 0]))]) [0, 1] rfl
                have hD : va_D A (([(xa, .inr (11, [.ref x0, .int (nI x1), .ref x2, .int (nI x3), .ref x4, .ref x5, .ref x6, .int x7, .ref x8, .int x9, .int x10]))] ++ [(q_260, .inr (3, [.int k3, .ref e0_266, .int 0]))]) ++ va_pl L M_268) := hD.part (cx := [(xa, .inr (11, [.ref x0, .int (nI x1), .ref x2, .int (nI x3), .ref x4, .ref x5, .ref x6, .int x7, .ref x8, .int x9, .int x10]))] ++ [(q_260, .inr (3, [.int k3, .ref e0_266, .int 0]))]) [0, 1] (by decide) rfl
                obtain ⟨K9, L9, M_291, hx9, i_292, hW, hP, hD, hM_293, hfr9, hq9⟩ := adoptE 3 0 hP hD hW (fun K' L' x i => (⟨3, k3, e0_266, 0, rfl, i_269.ext x, (by omega), (by decide)⟩ : gd_3 K' L' _))
                have hM_294 : M_291 b_5 = .inr (2, [.int v27_0, .int v27_1, .int v27_2, .ref v27_3, .int (nI v27_4), .int (nI v27_5), .ref v27_6, .ref v27_7, .ref v27_8, .int (nI v27_9), .ref v27_10, .int (nI v27_11), .ref v27_12, .ref v27_13, .long v27_14, .int v27_15, .ref v27_16, .ref v27_17, .ref v27_18, .ref v27_19]) := (hfr9 _ i_279.1).trans hM_272
                have hF : fr K0 L0 [10, 18] M0 M_291 := hF.adX hX0 hfr9
                have hT10 : fT 10 K0 L0 [1, 2] M0 M_291 := hT10.adX hX0 hfr9
                have hX0 := hX0.tr hx9
                have i_295 := i_273.ext hx9
                have i_296 := i_274.ext hx9
                have i_297 := i_275.ext hx9
                have i_298 := i_276.ext hx9
                have i_299 := i_277.ext hx9
                have i_300 := i_278.ext hx9
                have i_301 := i_279.ext hx9
                have i_302 := i_280.ext hx9
                have i_303 := i_281.ext hx9
                have i_304 := i_282.ext hx9
                have i_305 := i_283.ext hx9
                have i_306 := i_284.ext hx9
                have i_307 := i_285.ext hx9
                have i_308 := i_286.ext hx9
                have i_309 := i_287.ext hx9
                have i_310 := i_288.ext hx9
                have i_311 := i_289.ext hx9
                have i_312 := i_290.ext hx9
                obtain ⟨K, L, hK9, hL9⟩ : ∃ (K : Kp) (L : List Nat), K = K9 ∧ L = L9 := ⟨_, _, rfl, rfl⟩
                subst hK9
                subst hL9
                have hP : va_P D vwCl ([(xa, .inr (11, [.ref x0, .int (nI x1), .ref x2, .int (nI x3), .ref x4, .ref x5, .ref x6, .int x7, .ref x8, .int x9, .int x10]))] ++ va_pl L M_291) H_262 := hP
                have hD : va_D A ([(xa, .inr (11, [.ref x0, .int (nI x1), .ref x2, .int (nI x3), .ref x4, .ref x5, .ref x6, .int x7, .ref x8, .int x9, .int x10]))] ++ va_pl L M_291) := hD
                obtain ⟨f313, hM313, hf313⟩ := hW.open_18 i_307
                obtain ⟨n315, v315_0, v315_1, v315_2, hM315, h315_1, h315_2, y315_0⟩ := hW.open_3 i_292
                refine pg_astq (r := (RX3, TX3, 3)) hx hb hK hP hD hS i_307.1 4 3 hM313 rfl i_292.1 hM315 rfl (inbE k2 999 1000 (by decide) (by decide) c_32 (Int32.not_lt.mp c_33)) dX11_leaf_76 (fun H_314 locs hP hD hS => ?_)
                obtain ⟨M_316, eM_316⟩ : ∃ M1 : Hp, M1 = va_up M_291 v27_12 (.inl (cy 18, 1000, .inr (.inr (.inr (.inr (va_up f313 (k2 : Int32).toNatClampNeg (some q_260))))))) := ⟨_, rfl⟩
                have hP : va_P D vwCl ([(xa, .inr (11, [.ref x0, .int (nI x1), .ref x2, .int (nI x3), .ref x4, .ref x5, .ref x6, .int x7, .ref x8, .int x9, .int x10]))] ++ va_pl L M_316) H_314 := by rw [eM_316]; exact hP
                have hD : va_D A ([(xa, .inr (11, [.ref x0, .int (nI x1), .ref x2, .int (nI x3), .ref x4, .ref x5, .ref x6, .int x7, .ref x8, .int x9, .int x10]))] ++ va_pl L M_316) := by rw [eM_316]; exact hD
                have hW : WOK cy K L M_316 := by rw [eM_316]; exact hW.up_18 i_307 ⟨_, rfl, (upN hf313 i_292)⟩
                have hF : fr K0 L0 [10, 18] M0 M_316 := by rw [eM_316]; exact hF.upX hX0 i_307 (by decide)
                have hT10 : fT 10 K0 L0 [1, 2] M0 M_316 := by rw [eM_316]; exact hT10.neX hX0 i_307 (by decide)
                have hM_317 : M_316 v27_12 = .inl (cy 18, 1000, .inr (.inr (.inr (.inr (va_up f313 (k2 : Int32).toNatClampNeg (some q_260)))))) := by rw [eM_316]; exact va_up_self _ _ _
                have hM_318 : M_316 b_5 = .inr (2, [.int v27_0, .int v27_1, .int v27_2, .ref v27_3, .int (nI v27_4), .int (nI v27_5), .ref v27_6, .ref v27_7, .ref v27_8, .int (nI v27_9), .ref v27_10, .int (nI v27_11), .ref v27_12, .ref v27_13, .long v27_14, .int v27_15, .ref v27_16, .ref v27_17, .ref v27_18, .ref v27_19]) := by rw [eM_316, va_up_ne _ _ (i_301.neT i_307 (by decide))]; exact hM_294
                have hM_319 : M_316 q_260 = .inr (3, [.int v315_0, .ref v315_1, .int (nI v315_2)]) := by rw [eM_316, va_up_ne _ _ (i_292.neT i_307 (by decide))]; exact hM315
                have hf_321 : ∀ j, j < 1000 → iskN K L ((va_up f313 (k2 : Int32).toNatClampNeg (some q_260)) j) 3 0 := (upN hf313 i_292)
                obtain ⟨f_320, ef_320⟩ : ∃ f : Nat → Option Nat, f = va_up f313 (k2 : Int32).toNatClampNeg (some q_260) := ⟨_, rfl⟩
                rw [← ef_320] at hM_317 hf_321
                have hk_322 : f_320 (k2 : Int32).toNatClampNeg = some q_260 := by rw [ef_320]; exact va_up_self _ _ _
                clear ef_320
                refine lv_aload hx hb dX11_leaf_77 (lv_at hl 0 rfl) ?_
                refine pg_get (D := D) (ci := 2) (v := .ref v27_18) (C := RX2) (T := TX2) (N := 20) hx hb hg inG2 hown hK hP i_301.1 hM_318 rfl 18 (by decide) (hg _ wd_378) (fun _ h9 => h9) rfl dX11_leaf_79 ?_
                obtain ⟨v323_0, v323_1, v323_2, hM323, h323_0⟩ := hW.open_10 i_311
                have hPc : va_P D vwCl ([] ++ va_pl L M_316) H_314 := hP.part (cx := []) [] rfl
                have hDc : va_D A ([] ++ va_pl L M_316) := hD.part (cx := []) [] (by decide) rfl
                have hFc : ∀ q, va_A ([] ++ va_pl L M_316) H_314.size q → A q := pg_free hDc hS hA
                refine va_callv (va_runV (As := []) (rest := []) ⟨hx, hb, hml, hown, hg⟩ (s_X10_clear l D cy K L M_316 H_314.size v27_18  hW i_311) (cwV 0 hg (gV wd_379 wd_380 wd_381 wd_114 wd_382) rfl rfl rfl (by decide +kernel) ⟨(Nat.le_trans (Nat.le_of_ble_eq_true rfl) hRf), (Nat.le_trans (Nat.le_of_ble_eq_true rfl) hRl)⟩) ⟨PG.blind, pg_recv hK hP i_311.1 hM323 rfl, fun U hU hW => ⟨rfl, PG.at hPc hK hDc hN hU hW⟩⟩ rfl rfl hl.1 rfl (lv_room (Nat.le_of_ble_eq_true rfl)) dX11_leaf_82 ⟨(Nat.le_trans (Nat.le_of_ble_eq_true rfl) hRc), (Nat.le_trans (Nat.le_of_ble_eq_true rfl) hRs)⟩) hS (fun q _ h => hFc q h) hFc (fun M_326 t H_324 locs ht hvm hw hB hz1 hk1 hS => ?_)
                obtain ⟨hW, hF2, gT10, hp_327⟩ := hw
                obtain ⟨hP1, hD1⟩ := hB
                rw [ht] at hP1
                obtain ⟨hP, hD⟩ := va_joinP (X := [(xa, .inr (11, [.ref x0, .int (nI x1), .ref x2, .int (nI x3), .ref x4, .ref x5, .ref x6, .int x7, .ref x8, .int x9, .int x10]))]) (cx := []) (wr := [(xa, .inr (11, [.ref x0, .int (nI x1), .ref x2, .int (nI x3), .ref x4, .ref x5, .ref x6, .int x7, .ref x8, .int x9, .int x10]))]) (rx := []) (pl := va_pl L M_316) (pl1 := va_pl L M_326) hP hD [] [0] rfl rfl (by decide) (by decide) hk1 hFc hP1 hD1
                have hP : va_P D vwCl ([(xa, .inr (11, [.ref x0, .int (nI x1), .ref x2, .int (nI x3), .ref x4, .ref x5, .ref x6, .int x7, .ref x8, .int x9, .int x10]))] ++ va_pl L M_326) H_324 := hP
                have hD : va_D A ([(xa, .inr (11, [.ref x0, .int (nI x1), .ref x2, .int (nI x3), .ref x4, .ref x5, .ref x6, .int x7, .ref x8, .int x9, .int x10]))] ++ va_pl L M_326) := hD
                have hM_328 : M_326 v27_12 = .inl (cy 18, 1000, .inr (.inr (.inr (.inr (f_320))))) := (hF2.at i_307 (by decide)).trans hM_317
                have hM_329 : M_326 b_5 = .inr (2, [.int v27_0, .int v27_1, .int v27_2, .ref v27_3, .int (nI v27_4), .int (nI v27_5), .ref v27_6, .ref v27_7, .ref v27_8, .int (nI v27_9), .ref v27_10, .int (nI v27_11), .ref v27_12, .ref v27_13, .long v27_14, .int v27_15, .ref v27_16, .ref v27_17, .ref v27_18, .ref v27_19]) := (hF2.at i_301 (by decide)).trans hM_318
                have hM_330 : M_326 q_260 = .inr (3, [.int v315_0, .ref v315_1, .int (nI v315_2)]) := (hF2.at i_292 (by decide)).trans hM_319
                have hF : fr K0 L0 [10, 18] M0 M_326 := hF.trX hX0 hF2 (by decide)
                have hT10 : fT 10 K0 L0 [1, 2] M0 M_326 := hT10.trX hX0 gT10 (by decide)
                refine lv_aload_n hx hb dX11_leaf_85 rfl (lv_at hl 1 rfl) ?_
                refine lv_iload hx hb dX11_leaf_86 (lv_at hl 5 rfl) ?_
                have hPc := hP.sub (ws' := [(xa, .inr (11, [.ref x0, .int (nI x1), .ref x2, .int (nI x3), .ref x4, .ref x5, .ref x6, .int x7, .ref x8, .int x9, .int x10]))]) [0] rfl
                have hDc := hD.sub (ws' := [(xa, .inr (11, [.ref x0, .int (nI x1), .ref x2, .int (nI x3), .ref x4, .ref x5, .ref x6, .int x7, .ref x8, .int x9, .int x10]))]) [0] (by decide) rfl
                have hKc := hK.sub (tys' := []) [] rfl
                have hFc := va_free (wc := [(xa, .inr (11, [.ref x0, .int (nI x1), .ref x2, .int (nI x3), .ref x4, .ref x5, .ref x6, .int x7, .ref x8, .int x9, .int x10]))]) hD hS hA [0] rfl
                refine va_calli (va_runV (As := [.int 3]) (rest := []) ⟨hx, hb, hml, hown, hg⟩ (k_accept l D H_324.size xa x0 (nI x1) x2 (nI x3) x4 x5 x6 x7 x8 x9 x10 3) (cwV 1 hg (gV wd_356 wd_357 wd_358 wd_3 wd_359) rfl rfl rfl (by decide +kernel) ⟨(Nat.le_trans (Nat.le_of_ble_eq_true rfl) hRf), (Nat.le_trans (Nat.le_of_ble_eq_true rfl) hRl)⟩) ⟨Pr.blind, va_recv hK hP (ci := 11) (q0 := 0) rfl rfl, fun U hU hW => ⟨rfl, Pr.at hPc hKc hDc hN hU hW⟩⟩ rfl rfl hl.1 rfl (lv_room (Nat.le_of_ble_eq_true rfl)) dX11_leaf_88 ⟨(Nat.le_trans (Nat.le_of_ble_eq_true rfl) hRc), (Nat.le_trans (Nat.le_of_ble_eq_true rfl) hRs)⟩) hS (fun q _ h => hFc q h) hFc (fun r_332 M_333 t H_331 locs ht hvm hw hB hz1 hk1 hS => ?_)
                have hp_334 := hw
                obtain ⟨hP1, hK1, hD1⟩ := hB
                rw [ht] at hP1
                obtain ⟨hP, hD⟩ := va_joinQ (X := [(xa, .inr (11, [.ref x0, .int (nI x1), .ref x2, .int (nI x3), .ref x4, .ref x5, .ref x6, .int x7, .ref x8, .int x9, .int x10]))]) (cx := [(xa, .inr (11, [.ref x0, .int (nI x1), .ref x2, .int (nI x3), .ref x4, .ref x5, .ref x6, .int x7, .ref x8, .int x9, .int x10]))]) (wr := []) (w1 := [(xa, .inr (11, [.ref x0, .int (nI x1), .ref x2, .int (nI x3), .ref x4, .ref x5, .ref x6, .int x7, .ref x8, .int 0, .int (-1)]))]) (pl := va_pl L M_326) hP hD [0] [] rfl rfl (by decide) (by decide) hk1 hFc hP1 hD1
                have hP : va_P D vwCl ([(xa, .inr (11, [.ref x0, .int (nI x1), .ref x2, .int (nI x3), .ref x4, .ref x5, .ref x6, .int x7, .ref x8, .int 0, .int (-1)]))] ++ va_pl L M_326) H_331 := hP
                have hD : va_D A ([(xa, .inr (11, [.ref x0, .int (nI x1), .ref x2, .int (nI x3), .ref x4, .ref x5, .ref x6, .int x7, .ref x8, .int 0, .int (-1)]))] ++ va_pl L M_326) := hD
                have hq := Eq.symm hp_334
                subst hq
                refine W.widen (k := 2) (n := 9) (Nat.le_of_ble_eq_true rfl) (Nat.le_of_ble_eq_true rfl) ?_
                rw [hQ]
                exact W.iret (v := 3) hx hb hr (fun t ht hW9 => ⟨⟨3, (K, L, M_326), rfl, ⟨hX0, hW, hF, hT10, trivial⟩, ⟨0, (-1), by rw [ht]; exact hP, hD⟩⟩, hS.F ht⟩) hS.2.2 dX11_leaf_91
              · have hz := rfl (a := 0)
                refine va_new (ci := 3) (fs := [.int 0, .null, .int 0]) (C := RX3) (T := TX3) (N := 3) hx hb hg inG3 tyX3 tyX3_ok hown (hg _ wd_592) (hg _ wd_593) (hg _ wd_39) hK hP hD hS hA rfl dfX3 (Nat.le_trans (Nat.le_of_ble_eq_true rfl) hRc) (Nat.le_trans (Nat.le_of_ble_eq_true rfl) hRs) dX11_leaf_66 (fun q_335 H_336 hP hD hS => ?_)
                have hP : va_P D vwCl ([(xa, .inr (11, [.ref x0, .int (nI x1), .ref x2, .int (nI x3), .ref x4, .ref x5, .ref x6, .int x7, .ref x8, .int x9, .int x10])), (q_335, .inr (3, [.int 0, .null, .int 0]))] ++ va_pl L M) H_336 := hP.swap
                have hD : va_D A ([(xa, .inr (11, [.ref x0, .int (nI x1), .ref x2, .int (nI x3), .ref x4, .ref x5, .ref x6, .int x7, .ref x8, .int x9, .int x10])), (q_335, .inr (3, [.int 0, .null, .int 0]))] ++ va_pl L M) := hD.swap
                refine W.widen (k := 1) (n := 3) (Nat.le_of_ble_eq_true rfl) (Nat.le_of_ble_eq_true rfl) ?_
                refine lv_dup hx hb dX11_leaf_69 rfl ?_
                refine lv_iload_n hx hb dX11_leaf_70 rfl (lv_at hl 4 rfl) ?_
                refine lv_iload hx hb dX11_leaf_71 (lv_at hl 5 rfl) ?_
                have hPc := hP.sub (ws' := [(q_335, .inr (3, [.int 0, .null, .int 0]))]) [1] rfl
                have hDc := hD.sub (ws' := [(q_335, .inr (3, [.int 0, .null, .int 0]))]) [1] (by decide) rfl
                have hKc := hK.sub (tys' := []) [] rfl
                have hFc := va_free (wc := [(q_335, .inr (3, [.int 0, .null, .int 0]))]) hD hS hA [1] rfl
                refine va_callv (va_runI (As := [.int k3, .int 4]) (rest := [.ref q_335, .int k2, .ref v27_12]) ⟨hx, hb, hml, hown, hg⟩ (k_Leaf_4 l D H_336.size q_335 k3) (cwI 2 hg (gB wd_594) rfl rfl rfl (hg _ wd_39) (hg _ wd_595) (hg _ wd_596) rfl (by decide +kernel) ⟨(Nat.le_trans (Nat.le_of_ble_eq_true rfl) hRf), (Nat.le_trans (Nat.le_of_ble_eq_true rfl) hRl)⟩) ⟨Pr.blind, fun U hU hW => ⟨rfl, Pr.at hPc hKc hDc hN hU hW⟩⟩ rfl rfl hl.1 rfl (lv_room (Nat.le_of_ble_eq_true rfl)) dX11_leaf_73 ⟨(Nat.le_trans (Nat.le_of_ble_eq_true rfl) hRc), (Nat.le_trans (Nat.le_of_ble_eq_true rfl) hRs)⟩) hS (fun q _ h => hFc q h) hFc (fun M_339 t H_337 locs ht hvm hw hB hz1 hk1 hS => ?_)
                have hp_340 := hw
                obtain ⟨e0_341, c0_342, hP1, hK1, hD1⟩ := hB
                rw [ht] at hP1
                have hK1 := va_K.moved hvm.symm hK1
                obtain ⟨hP, hD⟩ := va_joinQ (X := [(xa, .inr (11, [.ref x0, .int (nI x1), .ref x2, .int (nI x3), .ref x4, .ref x5, .ref x6, .int x7, .ref x8, .int x9, .int x10])), (q_335, .inr (3, [.int 0, .null, .int 0]))]) (cx := [(q_335, .inr (3, [.int 0, .null, .int 0]))]) (wr := [(xa, .inr (11, [.ref x0, .int (nI x1), .ref x2, .int (nI x3), .ref x4, .ref x5, .ref x6, .int x7, .ref x8, .int x9, .int x10]))]) (w1 := [(q_335, .inr (3, [.int k3, .ref e0_341, .int 0])), (e0_341, .inl (c0_342, 4, .inl (fun _ => 0)))]) (pl := va_pl L M) hP hD [1] [0] rfl rfl (by decide) (by decide) hk1 hFc hP1 hD1
                have hP : va_P D vwCl ([(xa, .inr (11, [.ref x0, .int (nI x1), .ref x2, .int (nI x3), .ref x4, .ref x5, .ref x6, .int x7, .ref x8, .int x9, .int x10])), (q_335, .inr (3, [.int k3, .ref e0_341, .int 0])), (e0_341, .inl (c0_342, 4, .inl (fun _ => 0)))] ++ va_pl L M) H_337 := hP
                have hD : va_D A ([(xa, .inr (11, [.ref x0, .int (nI x1), .ref x2, .int (nI x3), .ref x4, .ref x5, .ref x6, .int x7, .ref x8, .int x9, .int x10])), (q_335, .inr (3, [.int k3, .ref e0_341, .int 0])), (e0_341, .inl (c0_342, 4, .inl (fun _ => 0)))] ++ va_pl L M) := hD
                have hK2 := hK.app hK1
                obtain rfl : c0_342 = cy 14 := cls_eq hK2 10 0 rfl rfl
                refine W.widen (k := 2) (n := 7) (Nat.le_of_ble_eq_true rfl) (Nat.le_of_ble_eq_true rfl) ?_
                have hP : va_P D vwCl (([(xa, .inr (11, [.ref x0, .int (nI x1), .ref x2, .int (nI x3), .ref x4, .ref x5, .ref x6, .int x7, .ref x8, .int x9, .int x10])), (q_335, .inr (3, [.int k3, .ref e0_341, .int 0]))] ++ [(e0_341, .inl ((cy 14), 4, .inl (fun _ => 0)))]) ++ va_pl L M) H_337 := hP.part (cx := [(xa, .inr (11, [.ref x0, .int (nI x1), .ref x2, .int (nI x3), .ref x4, .ref x5, .ref x6, .int x7, .ref x8, .int x9, .int x10])), (q_335, .inr (3, [.int k3, .ref e0_341, .int 0]))] ++ [(e0_341, .inl ((cy 14), 4, .inl (fun _ => 0)))]) [0, 1, 2] rfl
                have hD : va_D A (([(xa, .inr (11, [.ref x0, .int (nI x1), .ref x2, .int (nI x3), .ref x4, .ref x5, .ref x6, .int x7, .ref x8, .int x9, .int x10])), (q_335, .inr (3, [.int k3, .ref e0_341, .int 0]))] ++ [(e0_341, .inl ((cy 14), 4, .inl (fun _ => 0)))]) ++ va_pl L M) := hD.part (cx := [(xa, .inr (11, [.ref x0, .int (nI x1), .ref x2, .int (nI x3), .ref x4, .ref x5, .ref x6, .int x7, .ref x8, .int x9, .int x10])), (q_335, .inr (3, [.int k3, .ref e0_341, .int 0]))] ++ [(e0_341, .inl ((cy 14), 4, .inl (fun _ => 0)))]) [0, 1, 2] (by decide) rfl
                obtain ⟨K9, L9, M_343, hx9, i_344, hW, hP, hD, hM_345, hfr9, hq9⟩ := adoptE 53 4 hP hD hW (fun K' L' x i => (⟨_, rfl⟩ : gd_53 cy K' L' 4 _))
                have hM_347 : M_343 b_5 = .inr (2, [.int v27_0, .int v27_1, .int v27_2, .ref v27_3, .int (nI v27_4), .int (nI v27_5), .ref v27_6, .ref v27_7, .ref v27_8, .int (nI v27_9), .ref v27_10, .int (nI v27_11), .ref v27_12, .ref v27_13, .long v27_14, .int v27_15, .ref v27_16, .ref v27_17, .ref v27_18, .ref v27_19]) := (hfr9 _ hb_10.1).trans hM27
                have hF : fr K0 L0 [10, 18] M0 M_343 := hF.adX hX0 hfr9
                have hT10 : fT 10 K0 L0 [1, 2] M0 M_343 := hT10.adX hX0 hfr9
                have hX0 := hX0.tr hx9
                have i_348 := i0.ext hx9
                have i_349 := i2.ext hx9
                have i_350 := i4.ext hx9
                have i_351 := i5.ext hx9
                have i_352 := i6.ext hx9
                have i_353 := i8.ext hx9
                have i_354 := hb_10.ext hx9
                have i_355 := h27_3.ext hx9
                have i_356 := h27_6.ext hx9
                have i_357 := h27_7.ext hx9
                have i_358 := h27_8.ext hx9
                have i_359 := h27_10.ext hx9
                have i_360 := h27_12.ext hx9
                have i_361 := h27_13.ext hx9
                have i_362 := h27_16.ext hx9
                have i_363 := h27_17.ext hx9
                have i_364 := h27_18.ext hx9
                have i_365 := h27_19.ext hx9
                obtain ⟨K, L, hK9, hL9⟩ : ∃ (K : Kp) (L : List Nat), K = K9 ∧ L = L9 := ⟨_, _, rfl, rfl⟩
                subst hK9
                subst hL9
                have hP : va_P D vwCl ([(xa, .inr (11, [.ref x0, .int (nI x1), .ref x2, .int (nI x3), .ref x4, .ref x5, .ref x6, .int x7, .ref x8, .int x9, .int x10])), (q_335, .inr (3, [.int k3, .ref e0_341, .int 0]))] ++ va_pl L M_343) H_337 := hP
                have hD : va_D A ([(xa, .inr (11, [.ref x0, .int (nI x1), .ref x2, .int (nI x3), .ref x4, .ref x5, .ref x6, .int x7, .ref x8, .int x9, .int x10])), (q_335, .inr (3, [.int k3, .ref e0_341, .int 0]))] ++ va_pl L M_343) := hD
                have hP : va_P D vwCl (([(xa, .inr (11, [.ref x0, .int (nI x1), .ref x2, .int (nI x3), .ref x4, .ref x5, .ref x6, .int x7, .ref x8, .int x9, .int x10]))] ++ [(q_335, .inr (3, [.int k3, .ref e0_341, .int 0]))]) ++ va_pl L M_343) H_337 := hP.part (cx := [(xa, .inr (11, [.ref x0, .int (nI x1), .ref x2, .int (nI x3), .ref x4, .ref x5, .ref x6, .int x7, .ref x8, .int x9, .int x10]))] ++ [(q_335, .inr (3, [.int k3, .ref e0_341, .int 0]))]) [0, 1] rfl
                have hD : va_D A (([(xa, .inr (11, [.ref x0, .int (nI x1), .ref x2, .int (nI x3), .ref x4, .ref x5, .ref x6, .int x7, .ref x8, .int x9, .int x10]))] ++ [(q_335, .inr (3, [.int k3, .ref e0_341, .int 0]))]) ++ va_pl L M_343) := hD.part (cx := [(xa, .inr (11, [.ref x0, .int (nI x1), .ref x2, .int (nI x3), .ref x4, .ref x5, .ref x6, .int x7, .ref x8, .int x9, .int x10]))] ++ [(q_335, .inr (3, [.int k3, .ref e0_341, .int 0]))]) [0, 1] (by decide) rfl
                obtain ⟨K9, L9, M_366, hx9, i_367, hW, hP, hD, hM_368, hfr9, hq9⟩ := adoptE 3 0 hP hD hW (fun K' L' x i => (⟨4, k3, e0_341, 0, rfl, i_344.ext x, (by omega), (by decide)⟩ : gd_3 K' L' _))
                have hM_369 : M_366 b_5 = .inr (2, [.int v27_0, .int v27_1, .int v27_2, .ref v27_3, .int (nI v27_4), .int (nI v27_5), .ref v27_6, .ref v27_7, .ref v27_8, .int (nI v27_9), .ref v27_10, .int (nI v27_11), .ref v27_12, .ref v27_13, .long v27_14, .int v27_15, .ref v27_16, .ref v27_17, .ref v27_18, .ref v27_19]) := (hfr9 _ i_354.1).trans hM_347
                have hF : fr K0 L0 [10, 18] M0 M_366 := hF.adX hX0 hfr9
                have hT10 : fT 10 K0 L0 [1, 2] M0 M_366 := hT10.adX hX0 hfr9
                have hX0 := hX0.tr hx9
                have i_370 := i_348.ext hx9
                have i_371 := i_349.ext hx9
                have i_372 := i_350.ext hx9
                have i_373 := i_351.ext hx9
                have i_374 := i_352.ext hx9
                have i_375 := i_353.ext hx9
                have i_376 := i_354.ext hx9
                have i_377 := i_355.ext hx9
                have i_378 := i_356.ext hx9
                have i_379 := i_357.ext hx9
                have i_380 := i_358.ext hx9
                have i_381 := i_359.ext hx9
                have i_382 := i_360.ext hx9
                have i_383 := i_361.ext hx9
                have i_384 := i_362.ext hx9
                have i_385 := i_363.ext hx9
                have i_386 := i_364.ext hx9
                have i_387 := i_365.ext hx9
                obtain ⟨K, L, hK9, hL9⟩ : ∃ (K : Kp) (L : List Nat), K = K9 ∧ L = L9 := ⟨_, _, rfl, rfl⟩
                subst hK9
                subst hL9
                have hP : va_P D vwCl ([(xa, .inr (11, [.ref x0, .int (nI x1), .ref x2, .int (nI x3), .ref x4, .ref x5, .ref x6, .int x7, .ref x8, .int x9, .int x10]))] ++ va_pl L M_366) H_337 := hP
                have hD : va_D A ([(xa, .inr (11, [.ref x0, .int (nI x1), .ref x2, .int (nI x3), .ref x4, .ref x5, .ref x6, .int x7, .ref x8, .int x9, .int x10]))] ++ va_pl L M_366) := hD
                obtain ⟨f388, hM388, hf388⟩ := hW.open_18 i_382
                obtain ⟨n390, v390_0, v390_1, v390_2, hM390, h390_1, h390_2, y390_0⟩ := hW.open_3 i_367
                refine pg_astq (r := (RX3, TX3, 3)) hx hb hK hP hD hS i_382.1 4 3 hM388 rfl i_367.1 hM390 rfl (inbE k2 999 1000 (by decide) (by decide) c_32 (Int32.not_lt.mp c_33)) dX11_leaf_76 (fun H_389 locs hP hD hS => ?_)
                obtain ⟨M_391, eM_391⟩ : ∃ M1 : Hp, M1 = va_up M_366 v27_12 (.inl (cy 18, 1000, .inr (.inr (.inr (.inr (va_up f388 (k2 : Int32).toNatClampNeg (some q_335))))))) := ⟨_, rfl⟩
                have hP : va_P D vwCl ([(xa, .inr (11, [.ref x0, .int (nI x1), .ref x2, .int (nI x3), .ref x4, .ref x5, .ref x6, .int x7, .ref x8, .int x9, .int x10]))] ++ va_pl L M_391) H_389 := by rw [eM_391]; exact hP
                have hD : va_D A ([(xa, .inr (11, [.ref x0, .int (nI x1), .ref x2, .int (nI x3), .ref x4, .ref x5, .ref x6, .int x7, .ref x8, .int x9, .int x10]))] ++ va_pl L M_391) := by rw [eM_391]; exact hD
                have hW : WOK cy K L M_391 := by rw [eM_391]; exact hW.up_18 i_382 ⟨_, rfl, (upN hf388 i_367)⟩
                have hF : fr K0 L0 [10, 18] M0 M_391 := by rw [eM_391]; exact hF.upX hX0 i_382 (by decide)
                have hT10 : fT 10 K0 L0 [1, 2] M0 M_391 := by rw [eM_391]; exact hT10.neX hX0 i_382 (by decide)
                have hM_392 : M_391 v27_12 = .inl (cy 18, 1000, .inr (.inr (.inr (.inr (va_up f388 (k2 : Int32).toNatClampNeg (some q_335)))))) := by rw [eM_391]; exact va_up_self _ _ _
                have hM_393 : M_391 b_5 = .inr (2, [.int v27_0, .int v27_1, .int v27_2, .ref v27_3, .int (nI v27_4), .int (nI v27_5), .ref v27_6, .ref v27_7, .ref v27_8, .int (nI v27_9), .ref v27_10, .int (nI v27_11), .ref v27_12, .ref v27_13, .long v27_14, .int v27_15, .ref v27_16, .ref v27_17, .ref v27_18, .ref v27_19]) := by rw [eM_391, va_up_ne _ _ (i_376.neT i_382 (by decide))]; exact hM_369
                have hM_394 : M_391 q_335 = .inr (3, [.int v390_0, .ref v390_1, .int (nI v390_2)]) := by rw [eM_391, va_up_ne _ _ (i_367.neT i_382 (by decide))]; exact hM390
                have hf_396 : ∀ j, j < 1000 → iskN K L ((va_up f388 (k2 : Int32).toNatClampNeg (some q_335)) j) 3 0 := (upN hf388 i_367)
                obtain ⟨f_395, ef_395⟩ : ∃ f : Nat → Option Nat, f = va_up f388 (k2 : Int32).toNatClampNeg (some q_335) := ⟨_, rfl⟩
                rw [← ef_395] at hM_392 hf_396
                have hk_397 : f_395 (k2 : Int32).toNatClampNeg = some q_335 := by rw [ef_395]; exact va_up_self _ _ _
                clear ef_395
                refine lv_aload hx hb dX11_leaf_77 (lv_at hl 0 rfl) ?_
                refine pg_get (D := D) (ci := 2) (v := .ref v27_18) (C := RX2) (T := TX2) (N := 20) hx hb hg inG2 hown hK hP i_376.1 hM_393 rfl 18 (by decide) (hg _ wd_378) (fun _ h9 => h9) rfl dX11_leaf_79 ?_
                obtain ⟨v398_0, v398_1, v398_2, hM398, h398_0⟩ := hW.open_10 i_386
                have hPc : va_P D vwCl ([] ++ va_pl L M_391) H_389 := hP.part (cx := []) [] rfl
                have hDc : va_D A ([] ++ va_pl L M_391) := hD.part (cx := []) [] (by decide) rfl
                have hFc : ∀ q, va_A ([] ++ va_pl L M_391) H_389.size q → A q := pg_free hDc hS hA
                refine va_callv (va_runV (As := []) (rest := []) ⟨hx, hb, hml, hown, hg⟩ (s_X10_clear l D cy K L M_391 H_389.size v27_18  hW i_386) (cwV 0 hg (gV wd_379 wd_380 wd_381 wd_114 wd_382) rfl rfl rfl (by decide +kernel) ⟨(Nat.le_trans (Nat.le_of_ble_eq_true rfl) hRf), (Nat.le_trans (Nat.le_of_ble_eq_true rfl) hRl)⟩) ⟨PG.blind, pg_recv hK hP i_386.1 hM398 rfl, fun U hU hW => ⟨rfl, PG.at hPc hK hDc hN hU hW⟩⟩ rfl rfl hl.1 rfl (lv_room (Nat.le_of_ble_eq_true rfl)) dX11_leaf_82 ⟨(Nat.le_trans (Nat.le_of_ble_eq_true rfl) hRc), (Nat.le_trans (Nat.le_of_ble_eq_true rfl) hRs)⟩) hS (fun q _ h => hFc q h) hFc (fun M_401 t H_399 locs ht hvm hw hB hz1 hk1 hS => ?_)
                obtain ⟨hW, hF2, gT10, hp_402⟩ := hw
                obtain ⟨hP1, hD1⟩ := hB
                rw [ht] at hP1
                obtain ⟨hP, hD⟩ := va_joinP (X := [(xa, .inr (11, [.ref x0, .int (nI x1), .ref x2, .int (nI x3), .ref x4, .ref x5, .ref x6, .int x7, .ref x8, .int x9, .int x10]))]) (cx := []) (wr := [(xa, .inr (11, [.ref x0, .int (nI x1), .ref x2, .int (nI x3), .ref x4, .ref x5, .ref x6, .int x7, .ref x8, .int x9, .int x10]))]) (rx := []) (pl := va_pl L M_391) (pl1 := va_pl L M_401) hP hD [] [0] rfl rfl (by decide) (by decide) hk1 hFc hP1 hD1
                have hP : va_P D vwCl ([(xa, .inr (11, [.ref x0, .int (nI x1), .ref x2, .int (nI x3), .ref x4, .ref x5, .ref x6, .int x7, .ref x8, .int x9, .int x10]))] ++ va_pl L M_401) H_399 := hP
                have hD : va_D A ([(xa, .inr (11, [.ref x0, .int (nI x1), .ref x2, .int (nI x3), .ref x4, .ref x5, .ref x6, .int x7, .ref x8, .int x9, .int x10]))] ++ va_pl L M_401) := hD
                have hM_403 : M_401 v27_12 = .inl (cy 18, 1000, .inr (.inr (.inr (.inr (f_395))))) := (hF2.at i_382 (by decide)).trans hM_392
                have hM_404 : M_401 b_5 = .inr (2, [.int v27_0, .int v27_1, .int v27_2, .ref v27_3, .int (nI v27_4), .int (nI v27_5), .ref v27_6, .ref v27_7, .ref v27_8, .int (nI v27_9), .ref v27_10, .int (nI v27_11), .ref v27_12, .ref v27_13, .long v27_14, .int v27_15, .ref v27_16, .ref v27_17, .ref v27_18, .ref v27_19]) := (hF2.at i_376 (by decide)).trans hM_393
                have hM_405 : M_401 q_335 = .inr (3, [.int v390_0, .ref v390_1, .int (nI v390_2)]) := (hF2.at i_367 (by decide)).trans hM_394
                have hF : fr K0 L0 [10, 18] M0 M_401 := hF.trX hX0 hF2 (by decide)
                have hT10 : fT 10 K0 L0 [1, 2] M0 M_401 := hT10.trX hX0 gT10 (by decide)
                refine lv_aload_n hx hb dX11_leaf_85 rfl (lv_at hl 1 rfl) ?_
                refine lv_iload hx hb dX11_leaf_86 (lv_at hl 5 rfl) ?_
                have hPc := hP.sub (ws' := [(xa, .inr (11, [.ref x0, .int (nI x1), .ref x2, .int (nI x3), .ref x4, .ref x5, .ref x6, .int x7, .ref x8, .int x9, .int x10]))]) [0] rfl
                have hDc := hD.sub (ws' := [(xa, .inr (11, [.ref x0, .int (nI x1), .ref x2, .int (nI x3), .ref x4, .ref x5, .ref x6, .int x7, .ref x8, .int x9, .int x10]))]) [0] (by decide) rfl
                have hKc := hK.sub (tys' := []) [] rfl
                have hFc := va_free (wc := [(xa, .inr (11, [.ref x0, .int (nI x1), .ref x2, .int (nI x3), .ref x4, .ref x5, .ref x6, .int x7, .ref x8, .int x9, .int x10]))]) hD hS hA [0] rfl
                refine va_calli (va_runV (As := [.int 4]) (rest := []) ⟨hx, hb, hml, hown, hg⟩ (k_accept l D H_399.size xa x0 (nI x1) x2 (nI x3) x4 x5 x6 x7 x8 x9 x10 4) (cwV 1 hg (gV wd_356 wd_357 wd_358 wd_3 wd_359) rfl rfl rfl (by decide +kernel) ⟨(Nat.le_trans (Nat.le_of_ble_eq_true rfl) hRf), (Nat.le_trans (Nat.le_of_ble_eq_true rfl) hRl)⟩) ⟨Pr.blind, va_recv hK hP (ci := 11) (q0 := 0) rfl rfl, fun U hU hW => ⟨rfl, Pr.at hPc hKc hDc hN hU hW⟩⟩ rfl rfl hl.1 rfl (lv_room (Nat.le_of_ble_eq_true rfl)) dX11_leaf_88 ⟨(Nat.le_trans (Nat.le_of_ble_eq_true rfl) hRc), (Nat.le_trans (Nat.le_of_ble_eq_true rfl) hRs)⟩) hS (fun q _ h => hFc q h) hFc (fun r_407 M_408 t H_406 locs ht hvm hw hB hz1 hk1 hS => ?_)
                have hp_409 := hw
                obtain ⟨hP1, hK1, hD1⟩ := hB
                rw [ht] at hP1
                obtain ⟨hP, hD⟩ := va_joinQ (X := [(xa, .inr (11, [.ref x0, .int (nI x1), .ref x2, .int (nI x3), .ref x4, .ref x5, .ref x6, .int x7, .ref x8, .int x9, .int x10]))]) (cx := [(xa, .inr (11, [.ref x0, .int (nI x1), .ref x2, .int (nI x3), .ref x4, .ref x5, .ref x6, .int x7, .ref x8, .int x9, .int x10]))]) (wr := []) (w1 := [(xa, .inr (11, [.ref x0, .int (nI x1), .ref x2, .int (nI x3), .ref x4, .ref x5, .ref x6, .int x7, .ref x8, .int 0, .int (-1)]))]) (pl := va_pl L M_401) hP hD [0] [] rfl rfl (by decide) (by decide) hk1 hFc hP1 hD1
                have hP : va_P D vwCl ([(xa, .inr (11, [.ref x0, .int (nI x1), .ref x2, .int (nI x3), .ref x4, .ref x5, .ref x6, .int x7, .ref x8, .int 0, .int (-1)]))] ++ va_pl L M_401) H_406 := hP
                have hD : va_D A ([(xa, .inr (11, [.ref x0, .int (nI x1), .ref x2, .int (nI x3), .ref x4, .ref x5, .ref x6, .int x7, .ref x8, .int 0, .int (-1)]))] ++ va_pl L M_401) := hD
                have hq := Eq.symm hp_409
                subst hq
                refine W.widen (k := 2) (n := 9) (Nat.le_of_ble_eq_true rfl) (Nat.le_of_ble_eq_true rfl) ?_
                rw [hQ]
                exact W.iret (v := 4) hx hb hr (fun t ht hW9 => ⟨⟨4, (K, L, M_401), rfl, ⟨hX0, hW, hF, hT10, trivial⟩, ⟨0, (-1), by rw [ht]; exact hP, hD⟩⟩, hS.F ht⟩) hS.2.2 dX11_leaf_91
              · have hz := rfl (a := 0)
                refine va_new (ci := 3) (fs := [.int 0, .null, .int 0]) (C := RX3) (T := TX3) (N := 3) hx hb hg inG3 tyX3 tyX3_ok hown (hg _ wd_592) (hg _ wd_593) (hg _ wd_39) hK hP hD hS hA rfl dfX3 (Nat.le_trans (Nat.le_of_ble_eq_true rfl) hRc) (Nat.le_trans (Nat.le_of_ble_eq_true rfl) hRs) dX11_leaf_66 (fun q_410 H_411 hP hD hS => ?_)
                have hP : va_P D vwCl ([(xa, .inr (11, [.ref x0, .int (nI x1), .ref x2, .int (nI x3), .ref x4, .ref x5, .ref x6, .int x7, .ref x8, .int x9, .int x10])), (q_410, .inr (3, [.int 0, .null, .int 0]))] ++ va_pl L M) H_411 := hP.swap
                have hD : va_D A ([(xa, .inr (11, [.ref x0, .int (nI x1), .ref x2, .int (nI x3), .ref x4, .ref x5, .ref x6, .int x7, .ref x8, .int x9, .int x10])), (q_410, .inr (3, [.int 0, .null, .int 0]))] ++ va_pl L M) := hD.swap
                refine W.widen (k := 1) (n := 3) (Nat.le_of_ble_eq_true rfl) (Nat.le_of_ble_eq_true rfl) ?_
                refine lv_dup hx hb dX11_leaf_69 rfl ?_
                refine lv_iload_n hx hb dX11_leaf_70 rfl (lv_at hl 4 rfl) ?_
                refine lv_iload hx hb dX11_leaf_71 (lv_at hl 5 rfl) ?_
                have hPc := hP.sub (ws' := [(q_410, .inr (3, [.int 0, .null, .int 0]))]) [1] rfl
                have hDc := hD.sub (ws' := [(q_410, .inr (3, [.int 0, .null, .int 0]))]) [1] (by decide) rfl
                have hKc := hK.sub (tys' := []) [] rfl
                have hFc := va_free (wc := [(q_410, .inr (3, [.int 0, .null, .int 0]))]) hD hS hA [1] rfl
                refine va_callv (va_runI (As := [.int k3, .int 5]) (rest := [.ref q_410, .int k2, .ref v27_12]) ⟨hx, hb, hml, hown, hg⟩ (k_Leaf_5 l D H_411.size q_410 k3) (cwI 2 hg (gB wd_594) rfl rfl rfl (hg _ wd_39) (hg _ wd_595) (hg _ wd_596) rfl (by decide +kernel) ⟨(Nat.le_trans (Nat.le_of_ble_eq_true rfl) hRf), (Nat.le_trans (Nat.le_of_ble_eq_true rfl) hRl)⟩) ⟨Pr.blind, fun U hU hW => ⟨rfl, Pr.at hPc hKc hDc hN hU hW⟩⟩ rfl rfl hl.1 rfl (lv_room (Nat.le_of_ble_eq_true rfl)) dX11_leaf_73 ⟨(Nat.le_trans (Nat.le_of_ble_eq_true rfl) hRc), (Nat.le_trans (Nat.le_of_ble_eq_true rfl) hRs)⟩) hS (fun q _ h => hFc q h) hFc (fun M_414 t H_412 locs ht hvm hw hB hz1 hk1 hS => ?_)
                have hp_415 := hw
                obtain ⟨e0_416, c0_417, hP1, hK1, hD1⟩ := hB
                rw [ht] at hP1
                have hK1 := va_K.moved hvm.symm hK1
                obtain ⟨hP, hD⟩ := va_joinQ (X := [(xa, .inr (11, [.ref x0, .int (nI x1), .ref x2, .int (nI x3), .ref x4, .ref x5, .ref x6, .int x7, .ref x8, .int x9, .int x10])), (q_410, .inr (3, [.int 0, .null, .int 0]))]) (cx := [(q_410, .inr (3, [.int 0, .null, .int 0]))]) (wr := [(xa, .inr (11, [.ref x0, .int (nI x1), .ref x2, .int (nI x3), .ref x4, .ref x5, .ref x6, .int x7, .ref x8, .int x9, .int x10]))]) (w1 := [(q_410, .inr (3, [.int k3, .ref e0_416, .int 0])), (e0_416, .inl (c0_417, 5, .inl (fun _ => 0)))]) (pl := va_pl L M) hP hD [1] [0] rfl rfl (by decide) (by decide) hk1 hFc hP1 hD1
                have hP : va_P D vwCl ([(xa, .inr (11, [.ref x0, .int (nI x1), .ref x2, .int (nI x3), .ref x4, .ref x5, .ref x6, .int x7, .ref x8, .int x9, .int x10])), (q_410, .inr (3, [.int k3, .ref e0_416, .int 0])), (e0_416, .inl (c0_417, 5, .inl (fun _ => 0)))] ++ va_pl L M) H_412 := hP
                have hD : va_D A ([(xa, .inr (11, [.ref x0, .int (nI x1), .ref x2, .int (nI x3), .ref x4, .ref x5, .ref x6, .int x7, .ref x8, .int x9, .int x10])), (q_410, .inr (3, [.int k3, .ref e0_416, .int 0])), (e0_416, .inl (c0_417, 5, .inl (fun _ => 0)))] ++ va_pl L M) := hD
                have hK2 := hK.app hK1
                obtain rfl : c0_417 = cy 14 := cls_eq hK2 10 0 rfl rfl
                refine W.widen (k := 2) (n := 8) (Nat.le_of_ble_eq_true rfl) (Nat.le_of_ble_eq_true rfl) ?_
                have hP : va_P D vwCl (([(xa, .inr (11, [.ref x0, .int (nI x1), .ref x2, .int (nI x3), .ref x4, .ref x5, .ref x6, .int x7, .ref x8, .int x9, .int x10])), (q_410, .inr (3, [.int k3, .ref e0_416, .int 0]))] ++ [(e0_416, .inl ((cy 14), 5, .inl (fun _ => 0)))]) ++ va_pl L M) H_412 := hP.part (cx := [(xa, .inr (11, [.ref x0, .int (nI x1), .ref x2, .int (nI x3), .ref x4, .ref x5, .ref x6, .int x7, .ref x8, .int x9, .int x10])), (q_410, .inr (3, [.int k3, .ref e0_416, .int 0]))] ++ [(e0_416, .inl ((cy 14), 5, .inl (fun _ => 0)))]) [0, 1, 2] rfl
                have hD : va_D A (([(xa, .inr (11, [.ref x0, .int (nI x1), .ref x2, .int (nI x3), .ref x4, .ref x5, .ref x6, .int x7, .ref x8, .int x9, .int x10])), (q_410, .inr (3, [.int k3, .ref e0_416, .int 0]))] ++ [(e0_416, .inl ((cy 14), 5, .inl (fun _ => 0)))]) ++ va_pl L M) := hD.part (cx := [(xa, .inr (11, [.ref x0, .int (nI x1), .ref x2, .int (nI x3), .ref x4, .ref x5, .ref x6, .int x7, .ref x8, .int x9, .int x10])), (q_410, .inr (3, [.int k3, .ref e0_416, .int 0]))] ++ [(e0_416, .inl ((cy 14), 5, .inl (fun _ => 0)))]) [0, 1, 2] (by decide) rfl
                obtain ⟨K9, L9, M_418, hx9, i_419, hW, hP, hD, hM_420, hfr9, hq9⟩ := adoptE 53 5 hP hD hW (fun K' L' x i => (⟨_, rfl⟩ : gd_53 cy K' L' 5 _))
                have hM_422 : M_418 b_5 = .inr (2, [.int v27_0, .int v27_1, .int v27_2, .ref v27_3, .int (nI v27_4), .int (nI v27_5), .ref v27_6, .ref v27_7, .ref v27_8, .int (nI v27_9), .ref v27_10, .int (nI v27_11), .ref v27_12, .ref v27_13, .long v27_14, .int v27_15, .ref v27_16, .ref v27_17, .ref v27_18, .ref v27_19]) := (hfr9 _ hb_10.1).trans hM27
                have hF : fr K0 L0 [10, 18] M0 M_418 := hF.adX hX0 hfr9
                have hT10 : fT 10 K0 L0 [1, 2] M0 M_418 := hT10.adX hX0 hfr9
                have hX0 := hX0.tr hx9
                have i_423 := i0.ext hx9
                have i_424 := i2.ext hx9
                have i_425 := i4.ext hx9
                have i_426 := i5.ext hx9
                have i_427 := i6.ext hx9
                have i_428 := i8.ext hx9
                have i_429 := hb_10.ext hx9
                have i_430 := h27_3.ext hx9
                have i_431 := h27_6.ext hx9
                have i_432 := h27_7.ext hx9
                have i_433 := h27_8.ext hx9
                have i_434 := h27_10.ext hx9
                have i_435 := h27_12.ext hx9
                have i_436 := h27_13.ext hx9
                have i_437 := h27_16.ext hx9
                have i_438 := h27_17.ext hx9
                have i_439 := h27_18.ext hx9
                have i_440 := h27_19.ext hx9
                obtain ⟨K, L, hK9, hL9⟩ : ∃ (K : Kp) (L : List Nat), K = K9 ∧ L = L9 := ⟨_, _, rfl, rfl⟩
                subst hK9
                subst hL9
                have hP : va_P D vwCl ([(xa, .inr (11, [.ref x0, .int (nI x1), .ref x2, .int (nI x3), .ref x4, .ref x5, .ref x6, .int x7, .ref x8, .int x9, .int x10])), (q_410, .inr (3, [.int k3, .ref e0_416, .int 0]))] ++ va_pl L M_418) H_412 := hP
                have hD : va_D A ([(xa, .inr (11, [.ref x0, .int (nI x1), .ref x2, .int (nI x3), .ref x4, .ref x5, .ref x6, .int x7, .ref x8, .int x9, .int x10])), (q_410, .inr (3, [.int k3, .ref e0_416, .int 0]))] ++ va_pl L M_418) := hD
                have hP : va_P D vwCl (([(xa, .inr (11, [.ref x0, .int (nI x1), .ref x2, .int (nI x3), .ref x4, .ref x5, .ref x6, .int x7, .ref x8, .int x9, .int x10]))] ++ [(q_410, .inr (3, [.int k3, .ref e0_416, .int 0]))]) ++ va_pl L M_418) H_412 := hP.part (cx := [(xa, .inr (11, [.ref x0, .int (nI x1), .ref x2, .int (nI x3), .ref x4, .ref x5, .ref x6, .int x7, .ref x8, .int x9, .int x10]))] ++ [(q_410, .inr (3, [.int k3, .ref e0_416, .int 0]))]) [0, 1] rfl
                have hD : va_D A (([(xa, .inr (11, [.ref x0, .int (nI x1), .ref x2, .int (nI x3), .ref x4, .ref x5, .ref x6, .int x7, .ref x8, .int x9, .int x10]))] ++ [(q_410, .inr (3, [.int k3, .ref e0_416, .int 0]))]) ++ va_pl L M_418) := hD.part (cx := [(xa, .inr (11, [.ref x0, .int (nI x1), .ref x2, .int (nI x3), .ref x4, .ref x5, .ref x6, .int x7, .ref x8, .int x9, .int x10]))] ++ [(q_410, .inr (3, [.int k3, .ref e0_416, .int 0]))]) [0, 1] (by decide) rfl
                obtain ⟨K9, L9, M_441, hx9, i_442, hW, hP, hD, hM_443, hfr9, hq9⟩ := adoptE 3 0 hP hD hW (fun K' L' x i => (⟨5, k3, e0_416, 0, rfl, i_419.ext x, (by omega), (by decide)⟩ : gd_3 K' L' _))
                have hM_444 : M_441 b_5 = .inr (2, [.int v27_0, .int v27_1, .int v27_2, .ref v27_3, .int (nI v27_4), .int (nI v27_5), .ref v27_6, .ref v27_7, .ref v27_8, .int (nI v27_9), .ref v27_10, .int (nI v27_11), .ref v27_12, .ref v27_13, .long v27_14, .int v27_15, .ref v27_16, .ref v27_17, .ref v27_18, .ref v27_19]) := (hfr9 _ i_429.1).trans hM_422
                have hF : fr K0 L0 [10, 18] M0 M_441 := hF.adX hX0 hfr9
                have hT10 : fT 10 K0 L0 [1, 2] M0 M_441 := hT10.adX hX0 hfr9
                have hX0 := hX0.tr hx9
                have i_445 := i_423.ext hx9
                have i_446 := i_424.ext hx9
                have i_447 := i_425.ext hx9
                have i_448 := i_426.ext hx9
                have i_449 := i_427.ext hx9
                have i_450 := i_428.ext hx9
                have i_451 := i_429.ext hx9
                have i_452 := i_430.ext hx9
                have i_453 := i_431.ext hx9
                have i_454 := i_432.ext hx9
                have i_455 := i_433.ext hx9
                have i_456 := i_434.ext hx9
                have i_457 := i_435.ext hx9
                have i_458 := i_436.ext hx9
                have i_459 := i_437.ext hx9
                have i_460 := i_438.ext hx9
                have i_461 := i_439.ext hx9
                have i_462 := i_440.ext hx9
                obtain ⟨K, L, hK9, hL9⟩ : ∃ (K : Kp) (L : List Nat), K = K9 ∧ L = L9 := ⟨_, _, rfl, rfl⟩
                subst hK9
                subst hL9
                have hP : va_P D vwCl ([(xa, .inr (11, [.ref x0, .int (nI x1), .ref x2, .int (nI x3), .ref x4, .ref x5, .ref x6, .int x7, .ref x8, .int x9, .int x10]))] ++ va_pl L M_441) H_412 := hP
                have hD : va_D A ([(xa, .inr (11, [.ref x0, .int (nI x1), .ref x2, .int (nI x3), .ref x4, .ref x5, .ref x6, .int x7, .ref x8, .int x9, .int x10]))] ++ va_pl L M_441) := hD
                obtain ⟨f463, hM463, hf463⟩ := hW.open_18 i_457
                obtain ⟨n465, v465_0, v465_1, v465_2, hM465, h465_1, h465_2, y465_0⟩ := hW.open_3 i_442
                refine pg_astq (r := (RX3, TX3, 3)) hx hb hK hP hD hS i_457.1 4 3 hM463 rfl i_442.1 hM465 rfl (inbE k2 999 1000 (by decide) (by decide) c_32 (Int32.not_lt.mp c_33)) dX11_leaf_76 (fun H_464 locs hP hD hS => ?_)
                obtain ⟨M_466, eM_466⟩ : ∃ M1 : Hp, M1 = va_up M_441 v27_12 (.inl (cy 18, 1000, .inr (.inr (.inr (.inr (va_up f463 (k2 : Int32).toNatClampNeg (some q_410))))))) := ⟨_, rfl⟩
                have hP : va_P D vwCl ([(xa, .inr (11, [.ref x0, .int (nI x1), .ref x2, .int (nI x3), .ref x4, .ref x5, .ref x6, .int x7, .ref x8, .int x9, .int x10]))] ++ va_pl L M_466) H_464 := by rw [eM_466]; exact hP
                have hD : va_D A ([(xa, .inr (11, [.ref x0, .int (nI x1), .ref x2, .int (nI x3), .ref x4, .ref x5, .ref x6, .int x7, .ref x8, .int x9, .int x10]))] ++ va_pl L M_466) := by rw [eM_466]; exact hD
                have hW : WOK cy K L M_466 := by rw [eM_466]; exact hW.up_18 i_457 ⟨_, rfl, (upN hf463 i_442)⟩
                have hF : fr K0 L0 [10, 18] M0 M_466 := by rw [eM_466]; exact hF.upX hX0 i_457 (by decide)
                have hT10 : fT 10 K0 L0 [1, 2] M0 M_466 := by rw [eM_466]; exact hT10.neX hX0 i_457 (by decide)
                have hM_467 : M_466 v27_12 = .inl (cy 18, 1000, .inr (.inr (.inr (.inr (va_up f463 (k2 : Int32).toNatClampNeg (some q_410)))))) := by rw [eM_466]; exact va_up_self _ _ _
                have hM_468 : M_466 b_5 = .inr (2, [.int v27_0, .int v27_1, .int v27_2, .ref v27_3, .int (nI v27_4), .int (nI v27_5), .ref v27_6, .ref v27_7, .ref v27_8, .int (nI v27_9), .ref v27_10, .int (nI v27_11), .ref v27_12, .ref v27_13, .long v27_14, .int v27_15, .ref v27_16, .ref v27_17, .ref v27_18, .ref v27_19]) := by rw [eM_466, va_up_ne _ _ (i_451.neT i_457 (by decide))]; exact hM_444
                have hM_469 : M_466 q_410 = .inr (3, [.int v465_0, .ref v465_1, .int (nI v465_2)]) := by rw [eM_466, va_up_ne _ _ (i_442.neT i_457 (by decide))]; exact hM465
                have hf_471 : ∀ j, j < 1000 → iskN K L ((va_up f463 (k2 : Int32).toNatClampNeg (some q_410)) j) 3 0 := (upN hf463 i_442)
                obtain ⟨f_470, ef_470⟩ : ∃ f : Nat → Option Nat, f = va_up f463 (k2 : Int32).toNatClampNeg (some q_410) := ⟨_, rfl⟩
                rw [← ef_470] at hM_467 hf_471
                have hk_472 : f_470 (k2 : Int32).toNatClampNeg = some q_410 := by rw [ef_470]; exact va_up_self _ _ _
                clear ef_470
                refine lv_aload hx hb dX11_leaf_77 (lv_at hl 0 rfl) ?_
                refine pg_get (D := D) (ci := 2) (v := .ref v27_18) (C := RX2) (T := TX2) (N := 20) hx hb hg inG2 hown hK hP i_451.1 hM_468 rfl 18 (by decide) (hg _ wd_378) (fun _ h9 => h9) rfl dX11_leaf_79 ?_
                obtain ⟨v473_0, v473_1, v473_2, hM473, h473_0⟩ := hW.open_10 i_461
                have hPc : va_P D vwCl ([] ++ va_pl L M_466) H_464 := hP.part (cx := []) [] rfl
                have hDc : va_D A ([] ++ va_pl L M_466) := hD.part (cx := []) [] (by decide) rfl
                have hFc : ∀ q, va_A ([] ++ va_pl L M_466) H_464.size q → A q := pg_free hDc hS hA
                refine va_callv (va_runV (As := []) (rest := []) ⟨hx, hb, hml, hown, hg⟩ (s_X10_clear l D cy K L M_466 H_464.size v27_18  hW i_461) (cwV 0 hg (gV wd_379 wd_380 wd_381 wd_114 wd_382) rfl rfl rfl (by decide +kernel) ⟨(Nat.le_trans (Nat.le_of_ble_eq_true rfl) hRf), (Nat.le_trans (Nat.le_of_ble_eq_true rfl) hRl)⟩) ⟨PG.blind, pg_recv hK hP i_461.1 hM473 rfl, fun U hU hW => ⟨rfl, PG.at hPc hK hDc hN hU hW⟩⟩ rfl rfl hl.1 rfl (lv_room (Nat.le_of_ble_eq_true rfl)) dX11_leaf_82 ⟨(Nat.le_trans (Nat.le_of_ble_eq_true rfl) hRc), (Nat.le_trans (Nat.le_of_ble_eq_true rfl) hRs)⟩) hS (fun q _ h => hFc q h) hFc (fun M_476 t H_474 locs ht hvm hw hB hz1 hk1 hS => ?_)
                obtain ⟨hW, hF2, gT10, hp_477⟩ := hw
                obtain ⟨hP1, hD1⟩ := hB
                rw [ht] at hP1
                obtain ⟨hP, hD⟩ := va_joinP (X := [(xa, .inr (11, [.ref x0, .int (nI x1), .ref x2, .int (nI x3), .ref x4, .ref x5, .ref x6, .int x7, .ref x8, .int x9, .int x10]))]) (cx := []) (wr := [(xa, .inr (11, [.ref x0, .int (nI x1), .ref x2, .int (nI x3), .ref x4, .ref x5, .ref x6, .int x7, .ref x8, .int x9, .int x10]))]) (rx := []) (pl := va_pl L M_466) (pl1 := va_pl L M_476) hP hD [] [0] rfl rfl (by decide) (by decide) hk1 hFc hP1 hD1
                have hP : va_P D vwCl ([(xa, .inr (11, [.ref x0, .int (nI x1), .ref x2, .int (nI x3), .ref x4, .ref x5, .ref x6, .int x7, .ref x8, .int x9, .int x10]))] ++ va_pl L M_476) H_474 := hP
                have hD : va_D A ([(xa, .inr (11, [.ref x0, .int (nI x1), .ref x2, .int (nI x3), .ref x4, .ref x5, .ref x6, .int x7, .ref x8, .int x9, .int x10]))] ++ va_pl L M_476) := hD
                have hM_478 : M_476 v27_12 = .inl (cy 18, 1000, .inr (.inr (.inr (.inr (f_470))))) := (hF2.at i_457 (by decide)).trans hM_467
                have hM_479 : M_476 b_5 = .inr (2, [.int v27_0, .int v27_1, .int v27_2, .ref v27_3, .int (nI v27_4), .int (nI v27_5), .ref v27_6, .ref v27_7, .ref v27_8, .int (nI v27_9), .ref v27_10, .int (nI v27_11), .ref v27_12, .ref v27_13, .long v27_14, .int v27_15, .ref v27_16, .ref v27_17, .ref v27_18, .ref v27_19]) := (hF2.at i_451 (by decide)).trans hM_468
                have hM_480 : M_476 q_410 = .inr (3, [.int v465_0, .ref v465_1, .int (nI v465_2)]) := (hF2.at i_442 (by decide)).trans hM_469
                have hF : fr K0 L0 [10, 18] M0 M_476 := hF.trX hX0 hF2 (by decide)
                have hT10 : fT 10 K0 L0 [1, 2] M0 M_476 := hT10.trX hX0 gT10 (by decide)
                refine lv_aload_n hx hb dX11_leaf_85 rfl (lv_at hl 1 rfl) ?_
                refine lv_iload hx hb dX11_leaf_86 (lv_at hl 5 rfl) ?_
                have hPc := hP.sub (ws' := [(xa, .inr (11, [.ref x0, .int (nI x1), .ref x2, .int (nI x3), .ref x4, .ref x5, .ref x6, .int x7, .ref x8, .int x9, .int x10]))]) [0] rfl
                have hDc := hD.sub (ws' := [(xa, .inr (11, [.ref x0, .int (nI x1), .ref x2, .int (nI x3), .ref x4, .ref x5, .ref x6, .int x7, .ref x8, .int x9, .int x10]))]) [0] (by decide) rfl
                have hKc := hK.sub (tys' := []) [] rfl
                have hFc := va_free (wc := [(xa, .inr (11, [.ref x0, .int (nI x1), .ref x2, .int (nI x3), .ref x4, .ref x5, .ref x6, .int x7, .ref x8, .int x9, .int x10]))]) hD hS hA [0] rfl
                refine va_calli (va_runV (As := [.int 5]) (rest := []) ⟨hx, hb, hml, hown, hg⟩ (k_accept l D H_474.size xa x0 (nI x1) x2 (nI x3) x4 x5 x6 x7 x8 x9 x10 5) (cwV 1 hg (gV wd_356 wd_357 wd_358 wd_3 wd_359) rfl rfl rfl (by decide +kernel) ⟨(Nat.le_trans (Nat.le_of_ble_eq_true rfl) hRf), (Nat.le_trans (Nat.le_of_ble_eq_true rfl) hRl)⟩) ⟨Pr.blind, va_recv hK hP (ci := 11) (q0 := 0) rfl rfl, fun U hU hW => ⟨rfl, Pr.at hPc hKc hDc hN hU hW⟩⟩ rfl rfl hl.1 rfl (lv_room (Nat.le_of_ble_eq_true rfl)) dX11_leaf_88 ⟨(Nat.le_trans (Nat.le_of_ble_eq_true rfl) hRc), (Nat.le_trans (Nat.le_of_ble_eq_true rfl) hRs)⟩) hS (fun q _ h => hFc q h) hFc (fun r_482 M_483 t H_481 locs ht hvm hw hB hz1 hk1 hS => ?_)
                have hp_484 := hw
                obtain ⟨hP1, hK1, hD1⟩ := hB
                rw [ht] at hP1
                obtain ⟨hP, hD⟩ := va_joinQ (X := [(xa, .inr (11, [.ref x0, .int (nI x1), .ref x2, .int (nI x3), .ref x4, .ref x5, .ref x6, .int x7, .ref x8, .int x9, .int x10]))]) (cx := [(xa, .inr (11, [.ref x0, .int (nI x1), .ref x2, .int (nI x3), .ref x4, .ref x5, .ref x6, .int x7, .ref x8, .int x9, .int x10]))]) (wr := []) (w1 := [(xa, .inr (11, [.ref x0, .int (nI x1), .ref x2, .int (nI x3), .ref x4, .ref x5, .ref x6, .int x7, .ref x8, .int 0, .int (-1)]))]) (pl := va_pl L M_476) hP hD [0] [] rfl rfl (by decide) (by decide) hk1 hFc hP1 hD1
                have hP : va_P D vwCl ([(xa, .inr (11, [.ref x0, .int (nI x1), .ref x2, .int (nI x3), .ref x4, .ref x5, .ref x6, .int x7, .ref x8, .int 0, .int (-1)]))] ++ va_pl L M_476) H_481 := hP
                have hD : va_D A ([(xa, .inr (11, [.ref x0, .int (nI x1), .ref x2, .int (nI x3), .ref x4, .ref x5, .ref x6, .int x7, .ref x8, .int 0, .int (-1)]))] ++ va_pl L M_476) := hD
                have hq := Eq.symm hp_484
                subst hq
                refine W.widen (k := 2) (n := 9) (Nat.le_of_ble_eq_true rfl) (Nat.le_of_ble_eq_true rfl) ?_
                rw [hQ]
                exact W.iret (v := 5) hx hb hr (fun t ht hW9 => ⟨⟨5, (K, L, M_476), rfl, ⟨hX0, hW, hF, hT10, trivial⟩, ⟨0, (-1), by rw [ht]; exact hP, hD⟩⟩, hS.F ht⟩) hS.2.2 dX11_leaf_91
              · have hz := rfl (a := 0)
                refine va_new (ci := 3) (fs := [.int 0, .null, .int 0]) (C := RX3) (T := TX3) (N := 3) hx hb hg inG3 tyX3 tyX3_ok hown (hg _ wd_592) (hg _ wd_593) (hg _ wd_39) hK hP hD hS hA rfl dfX3 (Nat.le_trans (Nat.le_of_ble_eq_true rfl) hRc) (Nat.le_trans (Nat.le_of_ble_eq_true rfl) hRs) dX11_leaf_66 (fun q_485 H_486 hP hD hS => ?_)
                have hP : va_P D vwCl ([(xa, .inr (11, [.ref x0, .int (nI x1), .ref x2, .int (nI x3), .ref x4, .ref x5, .ref x6, .int x7, .ref x8, .int x9, .int x10])), (q_485, .inr (3, [.int 0, .null, .int 0]))] ++ va_pl L M) H_486 := hP.swap
                have hD : va_D A ([(xa, .inr (11, [.ref x0, .int (nI x1), .ref x2, .int (nI x3), .ref x4, .ref x5, .ref x6, .int x7, .ref x8, .int x9, .int x10])), (q_485, .inr (3, [.int 0, .null, .int 0]))] ++ va_pl L M) := hD.swap
                refine W.widen (k := 1) (n := 3) (Nat.le_of_ble_eq_true rfl) (Nat.le_of_ble_eq_true rfl) ?_
                refine lv_dup hx hb dX11_leaf_69 rfl ?_
                refine lv_iload_n hx hb dX11_leaf_70 rfl (lv_at hl 4 rfl) ?_
                refine lv_iload hx hb dX11_leaf_71 (lv_at hl 5 rfl) ?_
                have hPc := hP.sub (ws' := [(q_485, .inr (3, [.int 0, .null, .int 0]))]) [1] rfl
                have hDc := hD.sub (ws' := [(q_485, .inr (3, [.int 0, .null, .int 0]))]) [1] (by decide) rfl
                have hKc := hK.sub (tys' := []) [] rfl
                have hFc := va_free (wc := [(q_485, .inr (3, [.int 0, .null, .int 0]))]) hD hS hA [1] rfl
                refine va_callv (va_runI (As := [.int k3, .int 6]) (rest := [.ref q_485, .int k2, .ref v27_12]) ⟨hx, hb, hml, hown, hg⟩ (k_Leaf_6 l D H_486.size q_485 k3) (cwI 2 hg (gB wd_594) rfl rfl rfl (hg _ wd_39) (hg _ wd_595) (hg _ wd_596) rfl (by decide +kernel) ⟨(Nat.le_trans (Nat.le_of_ble_eq_true rfl) hRf), (Nat.le_trans (Nat.le_of_ble_eq_true rfl) hRl)⟩) ⟨Pr.blind, fun U hU hW => ⟨rfl, Pr.at hPc hKc hDc hN hU hW⟩⟩ rfl rfl hl.1 rfl (lv_room (Nat.le_of_ble_eq_true rfl)) dX11_leaf_73 ⟨(Nat.le_trans (Nat.le_of_ble_eq_true rfl) hRc), (Nat.le_trans (Nat.le_of_ble_eq_true rfl) hRs)⟩) hS (fun q _ h => hFc q h) hFc (fun M_489 t H_487 locs ht hvm hw hB hz1 hk1 hS => ?_)
                have hp_490 := hw
                obtain ⟨e0_491, c0_492, hP1, hK1, hD1⟩ := hB
                rw [ht] at hP1
                have hK1 := va_K.moved hvm.symm hK1
                obtain ⟨hP, hD⟩ := va_joinQ (X := [(xa, .inr (11, [.ref x0, .int (nI x1), .ref x2, .int (nI x3), .ref x4, .ref x5, .ref x6, .int x7, .ref x8, .int x9, .int x10])), (q_485, .inr (3, [.int 0, .null, .int 0]))]) (cx := [(q_485, .inr (3, [.int 0, .null, .int 0]))]) (wr := [(xa, .inr (11, [.ref x0, .int (nI x1), .ref x2, .int (nI x3), .ref x4, .ref x5, .ref x6, .int x7, .ref x8, .int x9, .int x10]))]) (w1 := [(q_485, .inr (3, [.int k3, .ref e0_491, .int 0])), (e0_491, .inl (c0_492, 6, .inl (fun _ => 0)))]) (pl := va_pl L M) hP hD [1] [0] rfl rfl (by decide) (by decide) hk1 hFc hP1 hD1
                have hP : va_P D vwCl ([(xa, .inr (11, [.ref x0, .int (nI x1), .ref x2, .int (nI x3), .ref x4, .ref x5, .ref x6, .int x7, .ref x8, .int x9, .int x10])), (q_485, .inr (3, [.int k3, .ref e0_491, .int 0])), (e0_491, .inl (c0_492, 6, .inl (fun _ => 0)))] ++ va_pl L M) H_487 := hP
                have hD : va_D A ([(xa, .inr (11, [.ref x0, .int (nI x1), .ref x2, .int (nI x3), .ref x4, .ref x5, .ref x6, .int x7, .ref x8, .int x9, .int x10])), (q_485, .inr (3, [.int k3, .ref e0_491, .int 0])), (e0_491, .inl (c0_492, 6, .inl (fun _ => 0)))] ++ va_pl L M) := hD
                have hK2 := hK.app hK1
                obtain rfl : c0_492 = cy 14 := cls_eq hK2 10 0 rfl rfl
                refine W.widen (k := 2) (n := 9) (Nat.le_of_ble_eq_true rfl) (Nat.le_of_ble_eq_true rfl) ?_
                have hP : va_P D vwCl (([(xa, .inr (11, [.ref x0, .int (nI x1), .ref x2, .int (nI x3), .ref x4, .ref x5, .ref x6, .int x7, .ref x8, .int x9, .int x10])), (q_485, .inr (3, [.int k3, .ref e0_491, .int 0]))] ++ [(e0_491, .inl ((cy 14), 6, .inl (fun _ => 0)))]) ++ va_pl L M) H_487 := hP.part (cx := [(xa, .inr (11, [.ref x0, .int (nI x1), .ref x2, .int (nI x3), .ref x4, .ref x5, .ref x6, .int x7, .ref x8, .int x9, .int x10])), (q_485, .inr (3, [.int k3, .ref e0_491, .int 0]))] ++ [(e0_491, .inl ((cy 14), 6, .inl (fun _ => 0)))]) [0, 1, 2] rfl
                have hD : va_D A (([(xa, .inr (11, [.ref x0, .int (nI x1), .ref x2, .int (nI x3), .ref x4, .ref x5, .ref x6, .int x7, .ref x8, .int x9, .int x10])), (q_485, .inr (3, [.int k3, .ref e0_491, .int 0]))] ++ [(e0_491, .inl ((cy 14), 6, .inl (fun _ => 0)))]) ++ va_pl L M) := hD.part (cx := [(xa, .inr (11, [.ref x0, .int (nI x1), .ref x2, .int (nI x3), .ref x4, .ref x5, .ref x6, .int x7, .ref x8, .int x9, .int x10])), (q_485, .inr (3, [.int k3, .ref e0_491, .int 0]))] ++ [(e0_491, .inl ((cy 14), 6, .inl (fun _ => 0)))]) [0, 1, 2] (by decide) rfl
                obtain ⟨K9, L9, M_493, hx9, i_494, hW, hP, hD, hM_495, hfr9, hq9⟩ := adoptE 53 6 hP hD hW (fun K' L' x i => (⟨_, rfl⟩ : gd_53 cy K' L' 6 _))
                have hM_497 : M_493 b_5 = .inr (2, [.int v27_0, .int v27_1, .int v27_2, .ref v27_3, .int (nI v27_4), .int (nI v27_5), .ref v27_6, .ref v27_7, .ref v27_8, .int (nI v27_9), .ref v27_10, .int (nI v27_11), .ref v27_12, .ref v27_13, .long v27_14, .int v27_15, .ref v27_16, .ref v27_17, .ref v27_18, .ref v27_19]) := (hfr9 _ hb_10.1).trans hM27
                have hF : fr K0 L0 [10, 18] M0 M_493 := hF.adX hX0 hfr9
                have hT10 : fT 10 K0 L0 [1, 2] M0 M_493 := hT10.adX hX0 hfr9
                have hX0 := hX0.tr hx9
                have i_498 := i0.ext hx9
                have i_499 := i2.ext hx9
                have i_500 := i4.ext hx9
                have i_501 := i5.ext hx9
                have i_502 := i6.ext hx9
                have i_503 := i8.ext hx9
                have i_504 := hb_10.ext hx9
                have i_505 := h27_3.ext hx9
                have i_506 := h27_6.ext hx9
                have i_507 := h27_7.ext hx9
                have i_508 := h27_8.ext hx9
                have i_509 := h27_10.ext hx9
                have i_510 := h27_12.ext hx9
                have i_511 := h27_13.ext hx9
                have i_512 := h27_16.ext hx9
                have i_513 := h27_17.ext hx9
                have i_514 := h27_18.ext hx9
                have i_515 := h27_19.ext hx9
                obtain ⟨K, L, hK9, hL9⟩ : ∃ (K : Kp) (L : List Nat), K = K9 ∧ L = L9 := ⟨_, _, rfl, rfl⟩
                subst hK9
                subst hL9
                have hP : va_P D vwCl ([(xa, .inr (11, [.ref x0, .int (nI x1), .ref x2, .int (nI x3), .ref x4, .ref x5, .ref x6, .int x7, .ref x8, .int x9, .int x10])), (q_485, .inr (3, [.int k3, .ref e0_491, .int 0]))] ++ va_pl L M_493) H_487 := hP
                have hD : va_D A ([(xa, .inr (11, [.ref x0, .int (nI x1), .ref x2, .int (nI x3), .ref x4, .ref x5, .ref x6, .int x7, .ref x8, .int x9, .int x10])), (q_485, .inr (3, [.int k3, .ref e0_491, .int 0]))] ++ va_pl L M_493) := hD
                have hP : va_P D vwCl (([(xa, .inr (11, [.ref x0, .int (nI x1), .ref x2, .int (nI x3), .ref x4, .ref x5, .ref x6, .int x7, .ref x8, .int x9, .int x10]))] ++ [(q_485, .inr (3, [.int k3, .ref e0_491, .int 0]))]) ++ va_pl L M_493) H_487 := hP.part (cx := [(xa, .inr (11, [.ref x0, .int (nI x1), .ref x2, .int (nI x3), .ref x4, .ref x5, .ref x6, .int x7, .ref x8, .int x9, .int x10]))] ++ [(q_485, .inr (3, [.int k3, .ref e0_491, .int 0]))]) [0, 1] rfl
                have hD : va_D A (([(xa, .inr (11, [.ref x0, .int (nI x1), .ref x2, .int (nI x3), .ref x4, .ref x5, .ref x6, .int x7, .ref x8, .int x9, .int x10]))] ++ [(q_485, .inr (3, [.int k3, .ref e0_491, .int 0]))]) ++ va_pl L M_493) := hD.part (cx := [(xa, .inr (11, [.ref x0, .int (nI x1), .ref x2, .int (nI x3), .ref x4, .ref x5, .ref x6, .int x7, .ref x8, .int x9, .int x10]))] ++ [(q_485, .inr (3, [.int k3, .ref e0_491, .int 0]))]) [0, 1] (by decide) rfl
                obtain ⟨K9, L9, M_516, hx9, i_517, hW, hP, hD, hM_518, hfr9, hq9⟩ := adoptE 3 0 hP hD hW (fun K' L' x i => (⟨6, k3, e0_491, 0, rfl, i_494.ext x, (by omega), (by decide)⟩ : gd_3 K' L' _))
                have hM_519 : M_516 b_5 = .inr (2, [.int v27_0, .int v27_1, .int v27_2, .ref v27_3, .int (nI v27_4), .int (nI v27_5), .ref v27_6, .ref v27_7, .ref v27_8, .int (nI v27_9), .ref v27_10, .int (nI v27_11), .ref v27_12, .ref v27_13, .long v27_14, .int v27_15, .ref v27_16, .ref v27_17, .ref v27_18, .ref v27_19]) := (hfr9 _ i_504.1).trans hM_497
                have hF : fr K0 L0 [10, 18] M0 M_516 := hF.adX hX0 hfr9
                have hT10 : fT 10 K0 L0 [1, 2] M0 M_516 := hT10.adX hX0 hfr9
                have hX0 := hX0.tr hx9
                have i_520 := i_498.ext hx9
                have i_521 := i_499.ext hx9
                have i_522 := i_500.ext hx9
                have i_523 := i_501.ext hx9
                have i_524 := i_502.ext hx9
                have i_525 := i_503.ext hx9
                have i_526 := i_504.ext hx9
                have i_527 := i_505.ext hx9
                have i_528 := i_506.ext hx9
                have i_529 := i_507.ext hx9
                have i_530 := i_508.ext hx9
                have i_531 := i_509.ext hx9
                have i_532 := i_510.ext hx9
                have i_533 := i_511.ext hx9
                have i_534 := i_512.ext hx9
                have i_535 := i_513.ext hx9
                have i_536 := i_514.ext hx9
                have i_537 := i_515.ext hx9
                obtain ⟨K, L, hK9, hL9⟩ : ∃ (K : Kp) (L : List Nat), K = K9 ∧ L = L9 := ⟨_, _, rfl, rfl⟩
                subst hK9
                subst hL9
                have hP : va_P D vwCl ([(xa, .inr (11, [.ref x0, .int (nI x1), .ref x2, .int (nI x3), .ref x4, .ref x5, .ref x6, .int x7, .ref x8, .int x9, .int x10]))] ++ va_pl L M_516) H_487 := hP
                have hD : va_D A ([(xa, .inr (11, [.ref x0, .int (nI x1), .ref x2, .int (nI x3), .ref x4, .ref x5, .ref x6, .int x7, .ref x8, .int x9, .int x10]))] ++ va_pl L M_516) := hD
                obtain ⟨f538, hM538, hf538⟩ := hW.open_18 i_532
                obtain ⟨n540, v540_0, v540_1, v540_2, hM540, h540_1, h540_2, y540_0⟩ := hW.open_3 i_517
                refine pg_astq (r := (RX3, TX3, 3)) hx hb hK hP hD hS i_532.1 4 3 hM538 rfl i_517.1 hM540 rfl (inbE k2 999 1000 (by decide) (by decide) c_32 (Int32.not_lt.mp c_33)) dX11_leaf_76 (fun H_539 locs hP hD hS => ?_)
                obtain ⟨M_541, eM_541⟩ : ∃ M1 : Hp, M1 = va_up M_516 v27_12 (.inl (cy 18, 1000, .inr (.inr (.inr (.inr (va_up f538 (k2 : Int32).toNatClampNeg (some q_485))))))) := ⟨_, rfl⟩
                have hP : va_P D vwCl ([(xa, .inr (11, [.ref x0, .int (nI x1), .ref x2, .int (nI x3), .ref x4, .ref x5, .ref x6, .int x7, .ref x8, .int x9, .int x10]))] ++ va_pl L M_541) H_539 := by rw [eM_541]; exact hP
                have hD : va_D A ([(xa, .inr (11, [.ref x0, .int (nI x1), .ref x2, .int (nI x3), .ref x4, .ref x5, .ref x6, .int x7, .ref x8, .int x9, .int x10]))] ++ va_pl L M_541) := by rw [eM_541]; exact hD
                have hW : WOK cy K L M_541 := by rw [eM_541]; exact hW.up_18 i_532 ⟨_, rfl, (upN hf538 i_517)⟩
                have hF : fr K0 L0 [10, 18] M0 M_541 := by rw [eM_541]; exact hF.upX hX0 i_532 (by decide)
                have hT10 : fT 10 K0 L0 [1, 2] M0 M_541 := by rw [eM_541]; exact hT10.neX hX0 i_532 (by decide)
                have hM_542 : M_541 v27_12 = .inl (cy 18, 1000, .inr (.inr (.inr (.inr (va_up f538 (k2 : Int32).toNatClampNeg (some q_485)))))) := by rw [eM_541]; exact va_up_self _ _ _
                have hM_543 : M_541 b_5 = .inr (2, [.int v27_0, .int v27_1, .int v27_2, .ref v27_3, .int (nI v27_4), .int (nI v27_5), .ref v27_6, .ref v27_7, .ref v27_8, .int (nI v27_9), .ref v27_10, .int (nI v27_11), .ref v27_12, .ref v27_13, .long v27_14, .int v27_15, .ref v27_16, .ref v27_17, .ref v27_18, .ref v27_19]) := by rw [eM_541, va_up_ne _ _ (i_526.neT i_532 (by decide))]; exact hM_519
                have hM_544 : M_541 q_485 = .inr (3, [.int v540_0, .ref v540_1, .int (nI v540_2)]) := by rw [eM_541, va_up_ne _ _ (i_517.neT i_532 (by decide))]; exact hM540
                have hf_546 : ∀ j, j < 1000 → iskN K L ((va_up f538 (k2 : Int32).toNatClampNeg (some q_485)) j) 3 0 := (upN hf538 i_517)
                obtain ⟨f_545, ef_545⟩ : ∃ f : Nat → Option Nat, f = va_up f538 (k2 : Int32).toNatClampNeg (some q_485) := ⟨_, rfl⟩
                rw [← ef_545] at hM_542 hf_546
                have hk_547 : f_545 (k2 : Int32).toNatClampNeg = some q_485 := by rw [ef_545]; exact va_up_self _ _ _
                clear ef_545
                refine lv_aload hx hb dX11_leaf_77 (lv_at hl 0 rfl) ?_
                refine pg_get (D := D) (ci := 2) (v := .ref v27_18) (C := RX2) (T := TX2) (N := 20) hx hb hg inG2 hown hK hP i_526.1 hM_543 rfl 18 (by decide) (hg _ wd_378) (fun _ h9 => h9) rfl dX11_leaf_79 ?_
                obtain ⟨v548_0, v548_1, v548_2, hM548, h548_0⟩ := hW.open_10 i_536
                have hPc : va_P D vwCl ([] ++ va_pl L M_541) H_539 := hP.part (cx := []) [] rfl
                have hDc : va_D A ([] ++ va_pl L M_541) := hD.part (cx := []) [] (by decide) rfl
                have hFc : ∀ q, va_A ([] ++ va_pl L M_541) H_539.size q → A q := pg_free hDc hS hA
                refine va_callv (va_runV (As := []) (rest := []) ⟨hx, hb, hml, hown, hg⟩ (s_X10_clear l D cy K L M_541 H_539.size v27_18  hW i_536) (cwV 0 hg (gV wd_379 wd_380 wd_381 wd_114 wd_382) rfl rfl rfl (by decide +kernel) ⟨(Nat.le_trans (Nat.le_of_ble_eq_true rfl) hRf), (Nat.le_trans (Nat.le_of_ble_eq_true rfl) hRl)⟩) ⟨PG.blind, pg_recv hK hP i_536.1 hM548 rfl, fun U hU hW => ⟨rfl, PG.at hPc hK hDc hN hU hW⟩⟩ rfl rfl hl.1 rfl (lv_room (Nat.le_of_ble_eq_true rfl)) dX11_leaf_82 ⟨(Nat.le_trans (Nat.le_of_ble_eq_true rfl) hRc), (Nat.le_trans (Nat.le_of_ble_eq_true rfl) hRs)⟩) hS (fun q _ h => hFc q h) hFc (fun M_551 t H_549 locs ht hvm hw hB hz1 hk1 hS => ?_)
                obtain ⟨hW, hF2, gT10, hp_552⟩ := hw
                obtain ⟨hP1, hD1⟩ := hB
                rw [ht] at hP1
                obtain ⟨hP, hD⟩ := va_joinP (X := [(xa, .inr (11, [.ref x0, .int (nI x1), .ref x2, .int (nI x3), .ref x4, .ref x5, .ref x6, .int x7, .ref x8, .int x9, .int x10]))]) (cx := []) (wr := [(xa, .inr (11, [.ref x0, .int (nI x1), .ref x2, .int (nI x3), .ref x4, .ref x5, .ref x6, .int x7, .ref x8, .int x9, .int x10]))]) (rx := []) (pl := va_pl L M_541) (pl1 := va_pl L M_551) hP hD [] [0] rfl rfl (by decide) (by decide) hk1 hFc hP1 hD1
                have hP : va_P D vwCl ([(xa, .inr (11, [.ref x0, .int (nI x1), .ref x2, .int (nI x3), .ref x4, .ref x5, .ref x6, .int x7, .ref x8, .int x9, .int x10]))] ++ va_pl L M_551) H_549 := hP
                have hD : va_D A ([(xa, .inr (11, [.ref x0, .int (nI x1), .ref x2, .int (nI x3), .ref x4, .ref x5, .ref x6, .int x7, .ref x8, .int x9, .int x10]))] ++ va_pl L M_551) := hD
                have hM_553 : M_551 v27_12 = .inl (cy 18, 1000, .inr (.inr (.inr (.inr (f_545))))) := (hF2.at i_532 (by decide)).trans hM_542
                have hM_554 : M_551 b_5 = .inr (2, [.int v27_0, .int v27_1, .int v27_2, .ref v27_3, .int (nI v27_4), .int (nI v27_5), .ref v27_6, .ref v27_7, .ref v27_8, .int (nI v27_9), .ref v27_10, .int (nI v27_11), .ref v27_12, .ref v27_13, .long v27_14, .int v27_15, .ref v27_16, .ref v27_17, .ref v27_18, .ref v27_19]) := (hF2.at i_526 (by decide)).trans hM_543
                have hM_555 : M_551 q_485 = .inr (3, [.int v540_0, .ref v540_1, .int (nI v540_2)]) := (hF2.at i_517 (by decide)).trans hM_544
                have hF : fr K0 L0 [10, 18] M0 M_551 := hF.trX hX0 hF2 (by decide)
                have hT10 : fT 10 K0 L0 [1, 2] M0 M_551 := hT10.trX hX0 gT10 (by decide)
                refine lv_aload_n hx hb dX11_leaf_85 rfl (lv_at hl 1 rfl) ?_
                refine lv_iload hx hb dX11_leaf_86 (lv_at hl 5 rfl) ?_
                have hPc := hP.sub (ws' := [(xa, .inr (11, [.ref x0, .int (nI x1), .ref x2, .int (nI x3), .ref x4, .ref x5, .ref x6, .int x7, .ref x8, .int x9, .int x10]))]) [0] rfl
                have hDc := hD.sub (ws' := [(xa, .inr (11, [.ref x0, .int (nI x1), .ref x2, .int (nI x3), .ref x4, .ref x5, .ref x6, .int x7, .ref x8, .int x9, .int x10]))]) [0] (by decide) rfl
                have hKc := hK.sub (tys' := []) [] rfl
                have hFc := va_free (wc := [(xa, .inr (11, [.ref x0, .int (nI x1), .ref x2, .int (nI x3), .ref x4, .ref x5, .ref x6, .int x7, .ref x8, .int x9, .int x10]))]) hD hS hA [0] rfl
                refine va_calli (va_runV (As := [.int 6]) (rest := []) ⟨hx, hb, hml, hown, hg⟩ (k_accept l D H_549.size xa x0 (nI x1) x2 (nI x3) x4 x5 x6 x7 x8 x9 x10 6) (cwV 1 hg (gV wd_356 wd_357 wd_358 wd_3 wd_359) rfl rfl rfl (by decide +kernel) ⟨(Nat.le_trans (Nat.le_of_ble_eq_true rfl) hRf), (Nat.le_trans (Nat.le_of_ble_eq_true rfl) hRl)⟩) ⟨Pr.blind, va_recv hK hP (ci := 11) (q0 := 0) rfl rfl, fun U hU hW => ⟨rfl, Pr.at hPc hKc hDc hN hU hW⟩⟩ rfl rfl hl.1 rfl (lv_room (Nat.le_of_ble_eq_true rfl)) dX11_leaf_88 ⟨(Nat.le_trans (Nat.le_of_ble_eq_true rfl) hRc), (Nat.le_trans (Nat.le_of_ble_eq_true rfl) hRs)⟩) hS (fun q _ h => hFc q h) hFc (fun r_557 M_558 t H_556 locs ht hvm hw hB hz1 hk1 hS => ?_)
                have hp_559 := hw
                obtain ⟨hP1, hK1, hD1⟩ := hB
                rw [ht] at hP1
                obtain ⟨hP, hD⟩ := va_joinQ (X := [(xa, .inr (11, [.ref x0, .int (nI x1), .ref x2, .int (nI x3), .ref x4, .ref x5, .ref x6, .int x7, .ref x8, .int x9, .int x10]))]) (cx := [(xa, .inr (11, [.ref x0, .int (nI x1), .ref x2, .int (nI x3), .ref x4, .ref x5, .ref x6, .int x7, .ref x8, .int x9, .int x10]))]) (wr := []) (w1 := [(xa, .inr (11, [.ref x0, .int (nI x1), .ref x2, .int (nI x3), .ref x4, .ref x5, .ref x6, .int x7, .ref x8, .int 0, .int (-1)]))]) (pl := va_pl L M_551) hP hD [0] [] rfl rfl (by decide) (by decide) hk1 hFc hP1 hD1
                have hP : va_P D vwCl ([(xa, .inr (11, [.ref x0, .int (nI x1), .ref x2, .int (nI x3), .ref x4, .ref x5, .ref x6, .int x7, .ref x8, .int 0, .int (-1)]))] ++ va_pl L M_551) H_556 := hP
                have hD : va_D A ([(xa, .inr (11, [.ref x0, .int (nI x1), .ref x2, .int (nI x3), .ref x4, .ref x5, .ref x6, .int x7, .ref x8, .int 0, .int (-1)]))] ++ va_pl L M_551) := hD
                have hq := Eq.symm hp_559
                subst hq
                rw [hQ]
                exact W.iret (v := 6) hx hb hr (fun t ht hW9 => ⟨⟨6, (K, L, M_551), rfl, ⟨hX0, hW, hF, hT10, trivial⟩, ⟨0, (-1), by rw [ht]; exact hP, hD⟩⟩, hS.F ht⟩) hS.2.2 dX11_leaf_91
            · have hz := rfl (a := 0)
              refine lv_if_ne (tgt := 60) hx hb dX11_leaf_51 (by decide) (fun c_560 => absurd c_560 (by decide)) (fun _ => ?_)
              refine lv_aload_n hx hb dX11_leaf_54 rfl (lv_at hl 1 rfl) ?_
              refine lv_iconst (v := 3) hx hb dX11_leaf_55 (by decide) ?_
              have hPc := hP.sub (ws' := [(xa, .inr (11, [.ref x0, .int (nI x1), .ref x2, .int (nI x3), .ref x4, .ref x5, .ref x6, .int x7, .ref x8, .int x9, .int x10]))]) [0] rfl
              have hDc := hD.sub (ws' := [(xa, .inr (11, [.ref x0, .int (nI x1), .ref x2, .int (nI x3), .ref x4, .ref x5, .ref x6, .int x7, .ref x8, .int x9, .int x10]))]) [0] (by decide) rfl
              have hKc := hK.sub (tys' := []) [] rfl
              have hFc := va_free (wc := [(xa, .inr (11, [.ref x0, .int (nI x1), .ref x2, .int (nI x3), .ref x4, .ref x5, .ref x6, .int x7, .ref x8, .int x9, .int x10]))]) hD hS hA [0] rfl
              refine va_calli (va_runV (As := [.int 3]) (rest := []) ⟨hx, hb, hml, hown, hg⟩ (k_refuse l D H_28.size xa x0 (nI x1) x2 (nI x3) x4 x5 x6 x7 x8 x9 x10 3) (cwV 1 hg (gV wd_344 wd_345 wd_346 wd_3 wd_347) rfl rfl rfl (by decide +kernel) ⟨(Nat.le_trans (Nat.le_of_ble_eq_true rfl) hRf), (Nat.le_trans (Nat.le_of_ble_eq_true rfl) hRl)⟩) ⟨Pr.blind, va_recv hK hP (ci := 11) (q0 := 0) rfl rfl, fun U hU hW => ⟨rfl, Pr.at hPc hKc hDc hN hU hW⟩⟩ rfl rfl hl.1 rfl (lv_room (Nat.le_of_ble_eq_true rfl)) dX11_leaf_56 ⟨(Nat.le_trans (Nat.le_of_ble_eq_true rfl) hRc), (Nat.le_trans (Nat.le_of_ble_eq_true rfl) hRs)⟩) hS (fun q _ h => hFc q h) hFc (fun r_562 M_563 t H_561 locs ht hvm hw hB hz1 hk1 hS => ?_)
              have hp_564 := hw
              obtain ⟨hP1, hK1, hD1⟩ := hB
              rw [ht] at hP1
              obtain ⟨hP, hD⟩ := va_joinQ (X := [(xa, .inr (11, [.ref x0, .int (nI x1), .ref x2, .int (nI x3), .ref x4, .ref x5, .ref x6, .int x7, .ref x8, .int x9, .int x10]))]) (cx := [(xa, .inr (11, [.ref x0, .int (nI x1), .ref x2, .int (nI x3), .ref x4, .ref x5, .ref x6, .int x7, .ref x8, .int x9, .int x10]))]) (wr := []) (w1 := [(xa, .inr (11, [.ref x0, .int (nI x1), .ref x2, .int (nI x3), .ref x4, .ref x5, .ref x6, .int x7, .ref x8, .int 3, .int (-1)]))]) (pl := va_pl L M) hP hD [0] [] rfl rfl (by decide) (by decide) hk1 hFc hP1 hD1
              have hP : va_P D vwCl ([(xa, .inr (11, [.ref x0, .int (nI x1), .ref x2, .int (nI x3), .ref x4, .ref x5, .ref x6, .int x7, .ref x8, .int 3, .int (-1)]))] ++ va_pl L M) H_561 := hP
              have hD : va_D A ([(xa, .inr (11, [.ref x0, .int (nI x1), .ref x2, .int (nI x3), .ref x4, .ref x5, .ref x6, .int x7, .ref x8, .int 3, .int (-1)]))] ++ va_pl L M) := hD
              have hq := Eq.symm hp_564
              subst hq
              refine W.widen (k := 2) (n := 9) (Nat.le_of_ble_eq_true rfl) (Nat.le_of_ble_eq_true rfl) ?_
              rw [hQ]
              exact W.iret (v := (-1)) hx hb hr (fun t ht hW9 => ⟨⟨(-1), (K, L, M), rfl, ⟨hX0, hW, hF, hT10, trivial⟩, ⟨3, (-1), by rw [ht]; exact hP, hD⟩⟩, hS.F ht⟩) hS.2.2 dX11_leaf_59
          · have hz := rfl (a := 0)
            refine lv_aload_n hx hb dX11_leaf_39 rfl (lv_at hl 1 rfl) ?_
            refine lv_iconst (v := 2) hx hb dX11_leaf_40 (by decide) ?_
            have hPc := hP.sub (ws' := [(xa, .inr (11, [.ref x0, .int (nI x1), .ref x2, .int (nI x3), .ref x4, .ref x5, .ref x6, .int x7, .ref x8, .int x9, .int x10]))]) [0] rfl
            have hDc := hD.sub (ws' := [(xa, .inr (11, [.ref x0, .int (nI x1), .ref x2, .int (nI x3), .ref x4, .ref x5, .ref x6, .int x7, .ref x8, .int x9, .int x10]))]) [0] (by decide) rfl
            have hKc := hK.sub (tys' := []) [] rfl
            have hFc := va_free (wc := [(xa, .inr (11, [.ref x0, .int (nI x1), .ref x2, .int (nI x3), .ref x4, .ref x5, .ref x6, .int x7, .ref x8, .int x9, .int x10]))]) hD hS hA [0] rfl
            refine va_calli (va_runV (As := [.int 2]) (rest := []) ⟨hx, hb, hml, hown, hg⟩ (k_refuse l D H_1.size xa x0 (nI x1) x2 (nI x3) x4 x5 x6 x7 x8 x9 x10 2) (cwV 1 hg (gV wd_344 wd_345 wd_346 wd_3 wd_347) rfl rfl rfl (by decide +kernel) ⟨(Nat.le_trans (Nat.le_of_ble_eq_true rfl) hRf), (Nat.le_trans (Nat.le_of_ble_eq_true rfl) hRl)⟩) ⟨Pr.blind, va_recv hK hP (ci := 11) (q0 := 0) rfl rfl, fun U hU hW => ⟨rfl, Pr.at hPc hKc hDc hN hU hW⟩⟩ rfl rfl hl.1 rfl (lv_room (Nat.le_of_ble_eq_true rfl)) dX11_leaf_41 ⟨(Nat.le_trans (Nat.le_of_ble_eq_true rfl) hRc), (Nat.le_trans (Nat.le_of_ble_eq_true rfl) hRs)⟩) hS (fun q _ h => hFc q h) hFc (fun r_566 M_567 t H_565 locs ht hvm hw hB hz1 hk1 hS => ?_)
            have hp_568 := hw
            obtain ⟨hP1, hK1, hD1⟩ := hB
            rw [ht] at hP1
            obtain ⟨hP, hD⟩ := va_joinQ (X := [(xa, .inr (11, [.ref x0, .int (nI x1), .ref x2, .int (nI x3), .ref x4, .ref x5, .ref x6, .int x7, .ref x8, .int x9, .int x10]))]) (cx := [(xa, .inr (11, [.ref x0, .int (nI x1), .ref x2, .int (nI x3), .ref x4, .ref x5, .ref x6, .int x7, .ref x8, .int x9, .int x10]))]) (wr := []) (w1 := [(xa, .inr (11, [.ref x0, .int (nI x1), .ref x2, .int (nI x3), .ref x4, .ref x5, .ref x6, .int x7, .ref x8, .int 2, .int (-1)]))]) (pl := va_pl L M) hP hD [0] [] rfl rfl (by decide) (by decide) hk1 hFc hP1 hD1
            have hP : va_P D vwCl ([(xa, .inr (11, [.ref x0, .int (nI x1), .ref x2, .int (nI x3), .ref x4, .ref x5, .ref x6, .int x7, .ref x8, .int 2, .int (-1)]))] ++ va_pl L M) H_565 := hP
            have hD : va_D A ([(xa, .inr (11, [.ref x0, .int (nI x1), .ref x2, .int (nI x3), .ref x4, .ref x5, .ref x6, .int x7, .ref x8, .int 2, .int (-1)]))] ++ va_pl L M) := hD
            have hq := Eq.symm hp_568
            subst hq
            refine W.widen (k := 2) (n := 9) (Nat.le_of_ble_eq_true rfl) (Nat.le_of_ble_eq_true rfl) ?_
            rw [hQ]
            exact W.iret (v := (-1)) hx hb hr (fun t ht hW9 => ⟨⟨(-1), (K, L, M), rfl, ⟨hX0, hW, hF, hT10, trivial⟩, ⟨2, (-1), by rw [ht]; exact hP, hD⟩⟩, hS.F ht⟩) hS.2.2 dX11_leaf_44
