theorem dX2_addTenure_0 : decode cX2_addTenure 0 = .ok (.aload_n 0, 1) := by decide +kernel
theorem dX2_addTenure_1 : decode cX2_addTenure 1 = .ok (.getfield 85, 3) := by decide +kernel
theorem dX2_addTenure_4 : decode cX2_addTenure 4 = .ok (.bipush 24, 2) := by decide +kernel
theorem dX2_addTenure_6 : decode cX2_addTenure 6 = .ok (.if_icmp .ge 10, 3) := by decide +kernel
theorem dX2_addTenure_9 : decode cX2_addTenure 9 = .ok (.iload_n 2, 1) := by decide +kernel
theorem dX2_addTenure_10 : decode cX2_addTenure 10 = .ok (.invokestatic 88, 3) := by decide +kernel
theorem dX2_addTenure_13 : decode cX2_addTenure 13 = .ok (.ifCond .ne 5, 3) := by decide +kernel
theorem dX2_addTenure_16 : decode cX2_addTenure 16 = .ok (.iconst (-1), 1) := by decide +kernel
theorem dX2_addTenure_17 : decode cX2_addTenure 17 = .ok (.ireturn, 1) := by decide +kernel
theorem dX2_addTenure_18 : decode cX2_addTenure 18 = .ok (.new 18, 3) := by decide +kernel
theorem dX2_addTenure_21 : decode cX2_addTenure 21 = .ok (.dup, 1) := by decide +kernel
theorem dX2_addTenure_22 : decode cX2_addTenure 22 = .ok (.aload_n 0, 1) := by decide +kernel
theorem dX2_addTenure_23 : decode cX2_addTenure 23 = .ok (.getfield 85, 3) := by decide +kernel
theorem dX2_addTenure_26 : decode cX2_addTenure 26 = .ok (.aload_n 1, 1) := by decide +kernel
theorem dX2_addTenure_27 : decode cX2_addTenure 27 = .ok (.iload_n 2, 1) := by decide +kernel
theorem dX2_addTenure_28 : decode cX2_addTenure 28 = .ok (.iload_n 3, 1) := by decide +kernel
theorem dX2_addTenure_29 : decode cX2_addTenure 29 = .ok (.iload 4, 2) := by decide +kernel
theorem dX2_addTenure_31 : decode cX2_addTenure 31 = .ok (.invokespecial 105, 3) := by decide +kernel
theorem dX2_addTenure_34 : decode cX2_addTenure 34 = .ok (.astore 5, 2) := by decide +kernel
theorem dX2_addTenure_36 : decode cX2_addTenure 36 = .ok (.aload_n 0, 1) := by decide +kernel
theorem dX2_addTenure_37 : decode cX2_addTenure 37 = .ok (.getfield 24, 3) := by decide +kernel
theorem dX2_addTenure_40 : decode cX2_addTenure 40 = .ok (.aload_n 0, 1) := by decide +kernel
theorem dX2_addTenure_41 : decode cX2_addTenure 41 = .ok (.getfield 85, 3) := by decide +kernel
theorem dX2_addTenure_44 : decode cX2_addTenure 44 = .ok (.aload 5, 2) := by decide +kernel
theorem dX2_addTenure_46 : decode cX2_addTenure 46 = .ok (.aastore, 1) := by decide +kernel
theorem dX2_addTenure_47 : decode cX2_addTenure 47 = .ok (.aload_n 0, 1) := by decide +kernel
theorem dX2_addTenure_48 : decode cX2_addTenure 48 = .ok (.dup, 1) := by decide +kernel
theorem dX2_addTenure_49 : decode cX2_addTenure 49 = .ok (.getfield 85, 3) := by decide +kernel
theorem dX2_addTenure_52 : decode cX2_addTenure 52 = .ok (.iconst 1, 1) := by decide +kernel
theorem dX2_addTenure_53 : decode cX2_addTenure 53 = .ok (.iadd, 1) := by decide +kernel
theorem dX2_addTenure_54 : decode cX2_addTenure 54 = .ok (.putfield 85, 3) := by decide +kernel
theorem dX2_addTenure_57 : decode cX2_addTenure 57 = .ok (.aload_n 0, 1) := by decide +kernel
theorem dX2_addTenure_58 : decode cX2_addTenure 58 = .ok (.getfield 20, 3) := by decide +kernel
theorem dX2_addTenure_61 : decode cX2_addTenure 61 = .ok (.iload_n 2, 1) := by decide +kernel
theorem dX2_addTenure_62 : decode cX2_addTenure 62 = .ok (.aload 5, 2) := by decide +kernel
theorem dX2_addTenure_64 : decode cX2_addTenure 64 = .ok (.aastore, 1) := by decide +kernel
theorem dX2_addTenure_65 : decode cX2_addTenure 65 = .ok (.aload_n 1, 1) := by decide +kernel
theorem dX2_addTenure_66 : decode cX2_addTenure 66 = .ok (.getfield 108, 3) := by decide +kernel
theorem dX2_addTenure_69 : decode cX2_addTenure 69 = .ok (.ifnull 21, 3) := by decide +kernel
theorem dX2_addTenure_72 : decode cX2_addTenure 72 = .ok (.aload_n 0, 1) := by decide +kernel
theorem dX2_addTenure_73 : decode cX2_addTenure 73 = .ok (.dup, 1) := by decide +kernel
theorem dX2_addTenure_74 : decode cX2_addTenure 74 = .ok (.getfield 114, 3) := by decide +kernel
theorem dX2_addTenure_77 : decode cX2_addTenure 77 = .ok (.iconst 1, 1) := by decide +kernel
theorem dX2_addTenure_78 : decode cX2_addTenure 78 = .ok (.aload_n 1, 1) := by decide +kernel
theorem dX2_addTenure_79 : decode cX2_addTenure 79 = .ok (.getfield 108, 3) := by decide +kernel
theorem dX2_addTenure_82 : decode cX2_addTenure 82 = .ok (.getfield 62, 3) := by decide +kernel
theorem dX2_addTenure_85 : decode cX2_addTenure 85 = .ok (.ishl, 1) := by decide +kernel
theorem dX2_addTenure_86 : decode cX2_addTenure 86 = .ok (.ior, 1) := by decide +kernel
theorem dX2_addTenure_87 : decode cX2_addTenure 87 = .ok (.putfield 114, 3) := by decide +kernel
theorem dX2_addTenure_90 : decode cX2_addTenure 90 = .ok (.aload 5, 2) := by decide +kernel
theorem dX2_addTenure_92 : decode cX2_addTenure 92 = .ok (.getfield 117, 3) := by decide +kernel
theorem dX2_addTenure_95 : decode cX2_addTenure 95 = .ok (.ireturn, 1) := by decide +kernel
theorem dX6_init_0 : decode cX6_init 0 = .ok (.aload_n 0, 1) := by decide +kernel
theorem dX6_init_1 : decode cX6_init 1 = .ok (.invokespecial 3, 3) := by decide +kernel
theorem dX6_init_4 : decode cX6_init 4 = .ok (.aload_n 0, 1) := by decide +kernel
theorem dX6_init_5 : decode cX6_init 5 = .ok (.iload_n 1, 1) := by decide +kernel
theorem dX6_init_6 : decode cX6_init 6 = .ok (.putfield 9, 3) := by decide +kernel
theorem dX6_init_9 : decode cX6_init 9 = .ok (.aload_n 0, 1) := by decide +kernel
theorem dX6_init_10 : decode cX6_init 10 = .ok (.bipush 24, 2) := by decide +kernel
theorem dX6_init_12 : decode cX6_init 12 = .ok (.newarray .int, 2) := by decide +kernel
theorem dX6_init_14 : decode cX6_init 14 = .ok (.putfield 15, 3) := by decide +kernel
theorem dX6_init_17 : decode cX6_init 17 = .ok (.aload_n 2, 1) := by decide +kernel
theorem dX6_init_18 : decode cX6_init 18 = .ok (.ifnull 29, 3) := by decide +kernel
theorem dX6_init_21 : decode cX6_init 21 = .ok (.aload_n 0, 1) := by decide +kernel
theorem dX6_init_22 : decode cX6_init 22 = .ok (.aload_n 2, 1) := by decide +kernel
theorem dX6_init_23 : decode cX6_init 23 = .ok (.getfield 19, 3) := by decide +kernel
theorem dX6_init_26 : decode cX6_init 26 = .ok (.putfield 19, 3) := by decide +kernel
theorem dX6_init_29 : decode cX6_init 29 = .ok (.aload_n 2, 1) := by decide +kernel
theorem dX6_init_30 : decode cX6_init 30 = .ok (.getfield 15, 3) := by decide +kernel
theorem dX6_init_33 : decode cX6_init 33 = .ok (.iconst 0, 1) := by decide +kernel
theorem dX6_init_34 : decode cX6_init 34 = .ok (.aload_n 0, 1) := by decide +kernel
theorem dX6_init_35 : decode cX6_init 35 = .ok (.getfield 15, 3) := by decide +kernel
theorem dX6_init_38 : decode cX6_init 38 = .ok (.iconst 0, 1) := by decide +kernel
theorem dX6_init_39 : decode cX6_init 39 = .ok (.aload_n 0, 1) := by decide +kernel
theorem dX6_init_40 : decode cX6_init 40 = .ok (.getfield 15, 3) := by decide +kernel
theorem dX6_init_43 : decode cX6_init 43 = .ok (.arraylength, 1) := by decide +kernel
theorem dX6_init_44 : decode cX6_init 44 = .ok (.invokestatic 22, 3) := by decide +kernel
theorem dX6_init_47 : decode cX6_init 47 = .ok (.return_, 1) := by decide +kernel
theorem dX11_partner_0 : decode cX11_partner 0 = .ok (.iload_n 1, 1) := by decide +kernel
theorem dX11_partner_1 : decode cX11_partner 1 = .ok (.ifCond .lt 9, 3) := by decide +kernel
theorem dX11_partner_4 : decode cX11_partner 4 = .ok (.iload_n 1, 1) := by decide +kernel
theorem dX11_partner_5 : decode cX11_partner 5 = .ok (.bipush 6, 2) := by decide +kernel
theorem dX11_partner_7 : decode cX11_partner 7 = .ok (.if_icmp .lt 9, 3) := by decide +kernel
theorem dX11_partner_10 : decode cX11_partner 10 = .ok (.aload_n 0, 1) := by decide +kernel
theorem dX11_partner_11 : decode cX11_partner 11 = .ok (.iconst 2, 1) := by decide +kernel
theorem dX11_partner_12 : decode cX11_partner 12 = .ok (.invokevirtual 47, 3) := by decide +kernel
theorem dX11_partner_15 : decode cX11_partner 15 = .ok (.ireturn, 1) := by decide +kernel
theorem dX11_partner_16 : decode cX11_partner 16 = .ok (.iload_n 1, 1) := by decide +kernel
theorem dX11_partner_17 : decode cX11_partner 17 = .ok (.invokestatic 60, 3) := by decide +kernel
theorem dX11_partner_20 : decode cX11_partner 20 = .ok (.ifCond .eq 19, 3) := by decide +kernel
theorem dX11_partner_23 : decode cX11_partner 23 = .ok (.iload_n 2, 1) := by decide +kernel
theorem dX11_partner_24 : decode cX11_partner 24 = .ok (.ifCond .lt 9, 3) := by decide +kernel
theorem dX11_partner_27 : decode cX11_partner 27 = .ok (.iload_n 2, 1) := by decide +kernel
theorem dX11_partner_28 : decode cX11_partner 28 = .ok (.ldc 64, 2) := by decide +kernel
theorem dX11_partner_30 : decode cX11_partner 30 = .ok (.if_icmp .le 9, 3) := by decide +kernel
theorem dX11_partner_33 : decode cX11_partner 33 = .ok (.aload_n 0, 1) := by decide +kernel
theorem dX11_partner_34 : decode cX11_partner 34 = .ok (.iconst 2, 1) := by decide +kernel
theorem dX11_partner_35 : decode cX11_partner 35 = .ok (.invokevirtual 47, 3) := by decide +kernel
theorem dX11_partner_38 : decode cX11_partner 38 = .ok (.ireturn, 1) := by decide +kernel
theorem dX11_partner_39 : decode cX11_partner 39 = .ok (.iload_n 1, 1) := by decide +kernel
theorem dX11_partner_40 : decode cX11_partner 40 = .ok (.iconst 5, 1) := by decide +kernel
theorem dX11_partner_41 : decode cX11_partner 41 = .ok (.if_icmp .ne 11, 3) := by decide +kernel
theorem dX11_partner_44 : decode cX11_partner 44 = .ok (.aload_n 0, 1) := by decide +kernel
theorem dX11_partner_45 : decode cX11_partner 45 = .ok (.iload_n 2, 1) := by decide +kernel
theorem dX11_partner_46 : decode cX11_partner 46 = .ok (.invokevirtual 65, 3) := by decide +kernel
theorem dX11_partner_49 : decode cX11_partner 49 = .ok (.goto 4, 3) := by decide +kernel
theorem dX11_partner_52 : decode cX11_partner 52 = .ok (.aconst_null, 1) := by decide +kernel
theorem dX11_partner_53 : decode cX11_partner 53 = .ok (.astore_n 3, 1) := by decide +kernel
theorem dX11_partner_54 : decode cX11_partner 54 = .ok (.iload_n 1, 1) := by decide +kernel
theorem dX11_partner_55 : decode cX11_partner 55 = .ok (.iconst 5, 1) := by decide +kernel
theorem dX11_partner_56 : decode cX11_partner 56 = .ok (.if_icmp .ne 13, 3) := by decide +kernel
theorem dX11_partner_59 : decode cX11_partner 59 = .ok (.aload_n 3, 1) := by decide +kernel
theorem dX11_partner_60 : decode cX11_partner 60 = .ok (.ifnonnull 9, 3) := by decide +kernel
theorem dX11_partner_63 : decode cX11_partner 63 = .ok (.aload_n 0, 1) := by decide +kernel
theorem dX11_partner_64 : decode cX11_partner 64 = .ok (.iconst 1, 1) := by decide +kernel
theorem dX11_partner_65 : decode cX11_partner 65 = .ok (.invokevirtual 47, 3) := by decide +kernel
theorem dX11_partner_68 : decode cX11_partner 68 = .ok (.ireturn, 1) := by decide +kernel
theorem dX11_partner_69 : decode cX11_partner 69 = .ok (.aload_n 0, 1) := by decide +kernel
theorem dX11_partner_70 : decode cX11_partner 70 = .ok (.getfield 69, 3) := by decide +kernel
theorem dX11_partner_73 : decode cX11_partner 73 = .ok (.bipush 40, 2) := by decide +kernel
theorem dX11_partner_75 : decode cX11_partner 75 = .ok (.if_icmp .lt 10, 3) := by decide +kernel
theorem dX11_partner_78 : decode cX11_partner 78 = .ok (.aload_n 0, 1) := by decide +kernel
theorem dX11_partner_79 : decode cX11_partner 79 = .ok (.bipush 9, 2) := by decide +kernel
theorem dX11_partner_81 : decode cX11_partner 81 = .ok (.invokevirtual 47, 3) := by decide +kernel
theorem dX11_partner_84 : decode cX11_partner 84 = .ok (.ireturn, 1) := by decide +kernel
theorem dX11_partner_85 : decode cX11_partner 85 = .ok (.aload_n 0, 1) := by decide +kernel
theorem dX11_partner_86 : decode cX11_partner 86 = .ok (.getfield 17, 3) := by decide +kernel
theorem dX11_partner_89 : decode cX11_partner 89 = .ok (.aload_n 0, 1) := by decide +kernel
theorem dX11_partner_90 : decode cX11_partner 90 = .ok (.getfield 69, 3) := by decide +kernel
theorem dX11_partner_93 : decode cX11_partner 93 = .ok (.new 15, 3) := by decide +kernel
theorem dX11_partner_96 : decode cX11_partner 96 = .ok (.dup, 1) := by decide +kernel
theorem dX11_partner_97 : decode cX11_partner 97 = .ok (.aload_n 0, 1) := by decide +kernel
theorem dX11_partner_98 : decode cX11_partner 98 = .ok (.getfield 69, 3) := by decide +kernel
theorem dX11_partner_101 : decode cX11_partner 101 = .ok (.iload_n 1, 1) := by decide +kernel
theorem dX11_partner_102 : decode cX11_partner 102 = .ok (.iload_n 2, 1) := by decide +kernel
theorem dX11_partner_103 : decode cX11_partner 103 = .ok (.aload_n 3, 1) := by decide +kernel
theorem dX11_partner_104 : decode cX11_partner 104 = .ok (.invokespecial 72, 3) := by decide +kernel
theorem dX11_partner_107 : decode cX11_partner 107 = .ok (.aastore, 1) := by decide +kernel
theorem dX11_partner_108 : decode cX11_partner 108 = .ok (.aload_n 0, 1) := by decide +kernel
theorem dX11_partner_109 : decode cX11_partner 109 = .ok (.dup, 1) := by decide +kernel
theorem dX11_partner_110 : decode cX11_partner 110 = .ok (.getfield 69, 3) := by decide +kernel
theorem dX11_partner_113 : decode cX11_partner 113 = .ok (.iconst 1, 1) := by decide +kernel
theorem dX11_partner_114 : decode cX11_partner 114 = .ok (.iadd, 1) := by decide +kernel
theorem dX11_partner_115 : decode cX11_partner 115 = .ok (.putfield 69, 3) := by decide +kernel
theorem dX11_partner_118 : decode cX11_partner 118 = .ok (.aload_n 0, 1) := by decide +kernel
theorem dX11_partner_119 : decode cX11_partner 119 = .ok (.aload_n 0, 1) := by decide +kernel
theorem dX11_partner_120 : decode cX11_partner 120 = .ok (.getfield 69, 3) := by decide +kernel
theorem dX11_partner_123 : decode cX11_partner 123 = .ok (.iconst 1, 1) := by decide +kernel
theorem dX11_partner_124 : decode cX11_partner 124 = .ok (.isub, 1) := by decide +kernel
theorem dX11_partner_125 : decode cX11_partner 125 = .ok (.invokevirtual 57, 3) := by decide +kernel
theorem dX11_partner_128 : decode cX11_partner 128 = .ok (.ireturn, 1) := by decide +kernel
theorem dX11_join_0 : decode cX11_join 0 = .ok (.aload_n 0, 1) := by decide +kernel
theorem dX11_join_1 : decode cX11_join 1 = .ok (.getfield 31, 3) := by decide +kernel
theorem dX11_join_4 : decode cX11_join 4 = .ok (.invokevirtual 96, 3) := by decide +kernel
theorem dX11_join_7 : decode cX11_join 7 = .ok (.aload_n 0, 1) := by decide +kernel
theorem dX11_join_8 : decode cX11_join 8 = .ok (.iload_n 1, 1) := by decide +kernel
theorem dX11_join_9 : decode cX11_join 9 = .ok (.invokevirtual 65, 3) := by decide +kernel
theorem dX11_join_12 : decode cX11_join 12 = .ok (.astore 6, 2) := by decide +kernel
theorem dX11_join_14 : decode cX11_join 14 = .ok (.aload_n 0, 1) := by decide +kernel
theorem dX11_join_15 : decode cX11_join 15 = .ok (.iload_n 3, 1) := by decide +kernel
theorem dX11_join_16 : decode cX11_join 16 = .ok (.invokevirtual 99, 3) := by decide +kernel
theorem dX11_join_19 : decode cX11_join 19 = .ok (.astore 7, 2) := by decide +kernel
theorem dX11_join_21 : decode cX11_join 21 = .ok (.aload 6, 2) := by decide +kernel
theorem dX11_join_23 : decode cX11_join 23 = .ok (.ifnull 15, 3) := by decide +kernel
theorem dX11_join_26 : decode cX11_join 26 = .ok (.aload 7, 2) := by decide +kernel
theorem dX11_join_28 : decode cX11_join 28 = .ok (.ifnull 10, 3) := by decide +kernel
theorem dX11_join_31 : decode cX11_join 31 = .ok (.iload_n 2, 1) := by decide +kernel
theorem dX11_join_32 : decode cX11_join 32 = .ok (.invokestatic 75, 3) := by decide +kernel
theorem dX11_join_35 : decode cX11_join 35 = .ok (.ifCond .ne 9, 3) := by decide +kernel
theorem dX11_join_38 : decode cX11_join 38 = .ok (.aload_n 0, 1) := by decide +kernel
theorem dX11_join_39 : decode cX11_join 39 = .ok (.iconst 1, 1) := by decide +kernel
theorem dX11_join_40 : decode cX11_join 40 = .ok (.invokevirtual 47, 3) := by decide +kernel
theorem dX11_join_43 : decode cX11_join 43 = .ok (.ireturn, 1) := by decide +kernel
theorem dX11_join_44 : decode cX11_join 44 = .ok (.aload 6, 2) := by decide +kernel
theorem dX11_join_46 : decode cX11_join 46 = .ok (.iload 4, 2) := by decide +kernel
theorem dX11_join_48 : decode cX11_join 48 = .ok (.invokevirtual 103, 3) := by decide +kernel
theorem dX11_join_51 : decode cX11_join 51 = .ok (.ifCond .ne 9, 3) := by decide +kernel
theorem dX11_join_54 : decode cX11_join 54 = .ok (.aload_n 0, 1) := by decide +kernel
theorem dX11_join_55 : decode cX11_join 55 = .ok (.iconst 3, 1) := by decide +kernel
theorem dX11_join_56 : decode cX11_join 56 = .ok (.invokevirtual 47, 3) := by decide +kernel
theorem dX11_join_59 : decode cX11_join 59 = .ok (.ireturn, 1) := by decide +kernel
theorem dX11_join_60 : decode cX11_join 60 = .ok (.aload 6, 2) := by decide +kernel
theorem dX11_join_62 : decode cX11_join 62 = .ok (.getfield 79, 3) := by decide +kernel
theorem dX11_join_65 : decode cX11_join 65 = .ok (.iload_n 2, 1) := by decide +kernel
theorem dX11_join_66 : decode cX11_join 66 = .ok (.iaload, 1) := by decide +kernel
theorem dX11_join_67 : decode cX11_join 67 = .ok (.ifCond .ne 14, 3) := by decide +kernel
theorem dX11_join_70 : decode cX11_join 70 = .ok (.aload 6, 2) := by decide +kernel
theorem dX11_join_72 : decode cX11_join 72 = .ok (.iload_n 2, 1) := by decide +kernel
theorem dX11_join_73 : decode cX11_join 73 = .ok (.iload 4, 2) := by decide +kernel
theorem dX11_join_75 : decode cX11_join 75 = .ok (.invokevirtual 106, 3) := by decide +kernel
theorem dX11_join_78 : decode cX11_join 78 = .ok (.ifCond .ne 9, 3) := by decide +kernel
theorem dX11_join_81 : decode cX11_join 81 = .ok (.aload_n 0, 1) := by decide +kernel
theorem dX11_join_82 : decode cX11_join 82 = .ok (.iconst 4, 1) := by decide +kernel
theorem dX11_join_83 : decode cX11_join 83 = .ok (.invokevirtual 47, 3) := by decide +kernel
theorem dX11_join_86 : decode cX11_join 86 = .ok (.ireturn, 1) := by decide +kernel
theorem dX11_join_87 : decode cX11_join 87 = .ok (.aload 7, 2) := by decide +kernel
theorem dX11_join_89 : decode cX11_join 89 = .ok (.getfield 110, 3) := by decide +kernel
theorem dX11_join_92 : decode cX11_join 92 = .ok (.ifnull 41, 3) := by decide +kernel
theorem dX11_join_95 : decode cX11_join 95 = .ok (.aload_n 0, 1) := by decide +kernel
theorem dX11_join_96 : decode cX11_join 96 = .ok (.getfield 31, 3) := by decide +kernel
theorem dX11_join_99 : decode cX11_join 99 = .ok (.aload_n 0, 1) := by decide +kernel
theorem dX11_join_100 : decode cX11_join 100 = .ok (.getfield 11, 3) := by decide +kernel
theorem dX11_join_103 : decode cX11_join 103 = .ok (.aload_n 0, 1) := by decide +kernel
theorem dX11_join_104 : decode cX11_join 104 = .ok (.getfield 51, 3) := by decide +kernel
theorem dX11_join_107 : decode cX11_join 107 = .ok (.aload 6, 2) := by decide +kernel
theorem dX11_join_109 : decode cX11_join 109 = .ok (.getfield 114, 3) := by decide +kernel
theorem dX11_join_112 : decode cX11_join 112 = .ok (.aload 7, 2) := by decide +kernel
theorem dX11_join_114 : decode cX11_join 114 = .ok (.getfield 110, 3) := by decide +kernel
theorem dX11_join_117 : decode cX11_join 117 = .ok (.getfield 114, 3) := by decide +kernel
theorem dX11_join_120 : decode cX11_join 120 = .ok (.invokevirtual 117, 3) := by decide +kernel
theorem dX11_join_123 : decode cX11_join 123 = .ok (.ifCond .eq 10, 3) := by decide +kernel
theorem dX11_join_126 : decode cX11_join 126 = .ok (.aload_n 0, 1) := by decide +kernel
theorem dX11_join_127 : decode cX11_join 127 = .ok (.bipush 8, 2) := by decide +kernel
theorem dX11_join_129 : decode cX11_join 129 = .ok (.invokevirtual 47, 3) := by decide +kernel
theorem dX11_join_132 : decode cX11_join 132 = .ok (.ireturn, 1) := by decide +kernel
theorem dX11_join_133 : decode cX11_join 133 = .ok (.aload 6, 2) := by decide +kernel
theorem dX11_join_135 : decode cX11_join 135 = .ok (.getfield 121, 3) := by decide +kernel
theorem dX11_join_138 : decode cX11_join 138 = .ok (.bipush 24, 2) := by decide +kernel
theorem dX11_join_140 : decode cX11_join 140 = .ok (.if_icmp .lt 10, 3) := by decide +kernel
theorem dX11_join_143 : decode cX11_join 143 = .ok (.aload_n 0, 1) := by decide +kernel
theorem dX11_join_144 : decode cX11_join 144 = .ok (.bipush 9, 2) := by decide +kernel
theorem dX11_join_146 : decode cX11_join 146 = .ok (.invokevirtual 47, 3) := by decide +kernel
theorem dX11_join_149 : decode cX11_join 149 = .ok (.ireturn, 1) := by decide +kernel
theorem dX11_join_150 : decode cX11_join 150 = .ok (.aload_n 0, 1) := by decide +kernel
theorem dX11_join_151 : decode cX11_join 151 = .ok (.aload 6, 2) := by decide +kernel
theorem dX11_join_153 : decode cX11_join 153 = .ok (.aload 7, 2) := by decide +kernel
theorem dX11_join_155 : decode cX11_join 155 = .ok (.iload_n 2, 1) := by decide +kernel
theorem dX11_join_156 : decode cX11_join 156 = .ok (.iload 4, 2) := by decide +kernel
theorem dX11_join_158 : decode cX11_join 158 = .ok (.iload 5, 2) := by decide +kernel
theorem dX11_join_160 : decode cX11_join 160 = .ok (.invokevirtual 124, 3) := by decide +kernel
theorem dX11_join_163 : decode cX11_join 163 = .ok (.invokevirtual 57, 3) := by decide +kernel
theorem dX11_join_166 : decode cX11_join 166 = .ok (.ireturn, 1) := by decide +kernel
theorem dX11_die_0 : decode cX11_die 0 = .ok (.aload_n 0, 1) := by decide +kernel
theorem dX11_die_1 : decode cX11_die 1 = .ok (.iload_n 1, 1) := by decide +kernel
theorem dX11_die_2 : decode cX11_die 2 = .ok (.invokevirtual 65, 3) := by decide +kernel
theorem dX11_die_5 : decode cX11_die 5 = .ok (.astore 5, 2) := by decide +kernel
theorem dX11_die_7 : decode cX11_die 7 = .ok (.aload_n 0, 1) := by decide +kernel
theorem dX11_die_8 : decode cX11_die 8 = .ok (.iload 4, 2) := by decide +kernel
theorem dX11_die_10 : decode cX11_die 10 = .ok (.invokevirtual 99, 3) := by decide +kernel
theorem dX11_die_13 : decode cX11_die 13 = .ok (.astore 6, 2) := by decide +kernel
theorem dX11_die_15 : decode cX11_die 15 = .ok (.aload 5, 2) := by decide +kernel
theorem dX11_die_17 : decode cX11_die 17 = .ok (.ifnull 15, 3) := by decide +kernel
theorem dX11_die_20 : decode cX11_die 20 = .ok (.aload 6, 2) := by decide +kernel
theorem dX11_die_22 : decode cX11_die 22 = .ok (.ifnull 10, 3) := by decide +kernel
theorem dX11_die_25 : decode cX11_die 25 = .ok (.iload_n 2, 1) := by decide +kernel
theorem dX11_die_26 : decode cX11_die 26 = .ok (.invokestatic 75, 3) := by decide +kernel
theorem dX11_die_29 : decode cX11_die 29 = .ok (.ifCond .ne 9, 3) := by decide +kernel
theorem dX11_die_32 : decode cX11_die 32 = .ok (.aload_n 0, 1) := by decide +kernel
theorem dX11_die_33 : decode cX11_die 33 = .ok (.iconst 1, 1) := by decide +kernel
theorem dX11_die_34 : decode cX11_die 34 = .ok (.invokevirtual 47, 3) := by decide +kernel
theorem dX11_die_37 : decode cX11_die 37 = .ok (.ireturn, 1) := by decide +kernel
theorem dX11_die_38 : decode cX11_die 38 = .ok (.aload 5, 2) := by decide +kernel
theorem dX11_die_40 : decode cX11_die 40 = .ok (.iload_n 2, 1) := by decide +kernel
theorem dX11_die_41 : decode cX11_die 41 = .ok (.invokevirtual 82, 3) := by decide +kernel
theorem dX11_die_44 : decode cX11_die 44 = .ok (.astore 7, 2) := by decide +kernel
theorem dX11_die_46 : decode cX11_die 46 = .ok (.aload 7, 2) := by decide +kernel
theorem dX11_die_48 : decode cX11_die 48 = .ok (.ifnonnull 9, 3) := by decide +kernel
theorem dX11_die_51 : decode cX11_die 51 = .ok (.aload_n 0, 1) := by decide +kernel
theorem dX11_die_52 : decode cX11_die 52 = .ok (.iconst 4, 1) := by decide +kernel
theorem dX11_die_53 : decode cX11_die 53 = .ok (.invokevirtual 47, 3) := by decide +kernel
theorem dX11_die_56 : decode cX11_die 56 = .ok (.ireturn, 1) := by decide +kernel
theorem dX11_die_57 : decode cX11_die 57 = .ok (.aload 6, 2) := by decide +kernel
theorem dX11_die_59 : decode cX11_die 59 = .ok (.getfield 136, 3) := by decide +kernel
theorem dX11_die_62 : decode cX11_die 62 = .ok (.iconst 4, 1) := by decide +kernel
theorem dX11_die_63 : decode cX11_die 63 = .ok (.if_icmp .eq 9, 3) := by decide +kernel
theorem dX11_die_66 : decode cX11_die 66 = .ok (.aload_n 0, 1) := by decide +kernel
theorem dX11_die_67 : decode cX11_die 67 = .ok (.iconst 2, 1) := by decide +kernel
theorem dX11_die_68 : decode cX11_die 68 = .ok (.invokevirtual 47, 3) := by decide +kernel
theorem dX11_die_71 : decode cX11_die 71 = .ok (.ireturn, 1) := by decide +kernel
theorem dX11_die_72 : decode cX11_die 72 = .ok (.aload 5, 2) := by decide +kernel
theorem dX11_die_74 : decode cX11_die 74 = .ok (.iload_n 3, 1) := by decide +kernel
theorem dX11_die_75 : decode cX11_die 75 = .ok (.invokevirtual 103, 3) := by decide +kernel
theorem dX11_die_78 : decode cX11_die 78 = .ok (.ifCond .eq 12, 3) := by decide +kernel
theorem dX11_die_81 : decode cX11_die 81 = .ok (.iload_n 3, 1) := by decide +kernel
theorem dX11_die_82 : decode cX11_die 82 = .ok (.aload 7, 2) := by decide +kernel
theorem dX11_die_84 : decode cX11_die 84 = .ok (.getfield 128, 3) := by decide +kernel
theorem dX11_die_87 : decode cX11_die 87 = .ok (.if_icmp .gt 9, 3) := by decide +kernel
theorem dX11_die_90 : decode cX11_die 90 = .ok (.aload_n 0, 1) := by decide +kernel
theorem dX11_die_91 : decode cX11_die 91 = .ok (.iconst 3, 1) := by decide +kernel
theorem dX11_die_92 : decode cX11_die 92 = .ok (.invokevirtual 47, 3) := by decide +kernel
theorem dX11_die_95 : decode cX11_die 95 = .ok (.ireturn, 1) := by decide +kernel
theorem dX11_die_96 : decode cX11_die 96 = .ok (.aload 5, 2) := by decide +kernel
theorem dX11_die_98 : decode cX11_die 98 = .ok (.getfield 121, 3) := by decide +kernel
theorem dX11_die_101 : decode cX11_die 101 = .ok (.bipush 24, 2) := by decide +kernel
theorem dX11_die_103 : decode cX11_die 103 = .ok (.if_icmp .lt 10, 3) := by decide +kernel
theorem dX11_die_106 : decode cX11_die 106 = .ok (.aload_n 0, 1) := by decide +kernel
theorem dX11_die_107 : decode cX11_die 107 = .ok (.bipush 9, 2) := by decide +kernel
theorem dX11_die_109 : decode cX11_die 109 = .ok (.invokevirtual 47, 3) := by decide +kernel
theorem dX11_die_112 : decode cX11_die 112 = .ok (.ireturn, 1) := by decide +kernel
theorem dX11_die_113 : decode cX11_die 113 = .ok (.aload 7, 2) := by decide +kernel
theorem dX11_die_115 : decode cX11_die 115 = .ok (.iload_n 3, 1) := by decide +kernel
theorem dX11_die_116 : decode cX11_die 116 = .ok (.iconst 1, 1) := by decide +kernel
theorem dX11_die_117 : decode cX11_die 117 = .ok (.iconst 0, 1) := by decide +kernel
theorem dX11_die_118 : decode cX11_die 118 = .ok (.invokevirtual 131, 3) := by decide +kernel
theorem dX11_die_121 : decode cX11_die 121 = .ok (.aload 5, 2) := by decide +kernel
theorem dX11_die_123 : decode cX11_die 123 = .ok (.aload 6, 2) := by decide +kernel
theorem dX11_die_125 : decode cX11_die 125 = .ok (.iload_n 2, 1) := by decide +kernel
theorem dX11_die_126 : decode cX11_die 126 = .ok (.iload_n 3, 1) := by decide +kernel
theorem dX11_die_127 : decode cX11_die 127 = .ok (.iconst 0, 1) := by decide +kernel
theorem dX11_die_128 : decode cX11_die 128 = .ok (.invokevirtual 124, 3) := by decide +kernel
theorem dX11_die_131 : decode cX11_die 131 = .ok (.istore 8, 2) := by decide +kernel
theorem dX11_die_133 : decode cX11_die 133 = .ok (.aload 7, 2) := by decide +kernel
theorem dX11_die_135 : decode cX11_die 135 = .ok (.aload 5, 2) := by decide +kernel
theorem dX11_die_137 : decode cX11_die 137 = .ok (.iload 8, 2) := by decide +kernel
theorem dX11_die_139 : decode cX11_die 139 = .ok (.invokevirtual 139, 3) := by decide +kernel
theorem dX11_die_142 : decode cX11_die 142 = .ok (.putfield 142, 3) := by decide +kernel
theorem dX11_die_145 : decode cX11_die 145 = .ok (.aload_n 0, 1) := by decide +kernel
theorem dX11_die_146 : decode cX11_die 146 = .ok (.iload 8, 2) := by decide +kernel
theorem dX11_die_148 : decode cX11_die 148 = .ok (.invokevirtual 57, 3) := by decide +kernel
theorem dX11_die_151 : decode cX11_die 151 = .ok (.ireturn, 1) := by decide +kernel
theorem dX11_rule_0 : decode cX11_rule 0 = .ok (.aload_n 0, 1) := by decide +kernel
theorem dX11_rule_1 : decode cX11_rule 1 = .ok (.iload_n 1, 1) := by decide +kernel
theorem dX11_rule_2 : decode cX11_rule 2 = .ok (.invokevirtual 65, 3) := by decide +kernel
theorem dX11_rule_5 : decode cX11_rule 5 = .ok (.astore_n 3, 1) := by decide +kernel
theorem dX11_rule_6 : decode cX11_rule 6 = .ok (.aload_n 3, 1) := by decide +kernel
theorem dX11_rule_7 : decode cX11_rule 7 = .ok (.ifnonnull 9, 3) := by decide +kernel
theorem dX11_rule_10 : decode cX11_rule 10 = .ok (.aload_n 0, 1) := by decide +kernel
theorem dX11_rule_11 : decode cX11_rule 11 = .ok (.iconst 1, 1) := by decide +kernel
theorem dX11_rule_12 : decode cX11_rule 12 = .ok (.invokevirtual 47, 3) := by decide +kernel
theorem dX11_rule_15 : decode cX11_rule 15 = .ok (.ireturn, 1) := by decide +kernel
theorem dX11_rule_16 : decode cX11_rule 16 = .ok (.aload_n 3, 1) := by decide +kernel
theorem dX11_rule_17 : decode cX11_rule 17 = .ok (.invokevirtual 149, 3) := by decide +kernel
theorem dX11_rule_20 : decode cX11_rule 20 = .ok (.astore 4, 2) := by decide +kernel
theorem dX11_rule_22 : decode cX11_rule 22 = .ok (.aload 4, 2) := by decide +kernel
theorem dX11_rule_24 : decode cX11_rule 24 = .ok (.ifnonnull 19, 3) := by decide +kernel
theorem dX11_rule_27 : decode cX11_rule 27 = .ok (.iload_n 2, 1) := by decide +kernel
theorem dX11_rule_28 : decode cX11_rule 28 = .ok (.aload_n 3, 1) := by decide +kernel
theorem dX11_rule_29 : decode cX11_rule 29 = .ok (.getfield 153, 3) := by decide +kernel
theorem dX11_rule_32 : decode cX11_rule 32 = .ok (.if_icmp .ne 7, 3) := by decide +kernel
theorem dX11_rule_35 : decode cX11_rule 35 = .ok (.iconst 1, 1) := by decide +kernel
theorem dX11_rule_36 : decode cX11_rule 36 = .ok (.goto 21, 3) := by decide +kernel
theorem dX11_rule_39 : decode cX11_rule 39 = .ok (.iconst 0, 1) := by decide +kernel
theorem dX11_rule_40 : decode cX11_rule 40 = .ok (.goto 17, 3) := by decide +kernel
theorem dX11_rule_43 : decode cX11_rule 43 = .ok (.iload_n 2, 1) := by decide +kernel
theorem dX11_rule_44 : decode cX11_rule 44 = .ok (.aload 4, 2) := by decide +kernel
theorem dX11_rule_46 : decode cX11_rule 46 = .ok (.getfield 156, 3) := by decide +kernel
theorem dX11_rule_49 : decode cX11_rule 49 = .ok (.if_icmp .le 7, 3) := by decide +kernel
theorem dX11_rule_52 : decode cX11_rule 52 = .ok (.iconst 1, 1) := by decide +kernel
theorem dX11_rule_53 : decode cX11_rule 53 = .ok (.goto 4, 3) := by decide +kernel
theorem dX11_rule_56 : decode cX11_rule 56 = .ok (.iconst 0, 1) := by decide +kernel
theorem dX11_rule_57 : decode cX11_rule 57 = .ok (.istore 5, 2) := by decide +kernel
theorem dX11_rule_59 : decode cX11_rule 59 = .ok (.aload_n 3, 1) := by decide +kernel
theorem dX11_rule_60 : decode cX11_rule 60 = .ok (.iload_n 2, 1) := by decide +kernel
theorem dX11_rule_61 : decode cX11_rule 61 = .ok (.invokevirtual 103, 3) := by decide +kernel
theorem dX11_rule_64 : decode cX11_rule 64 = .ok (.ifCond .eq 8, 3) := by decide +kernel
theorem dX11_rule_67 : decode cX11_rule 67 = .ok (.iload 5, 2) := by decide +kernel
theorem dX11_rule_69 : decode cX11_rule 69 = .ok (.ifCond .ne 9, 3) := by decide +kernel
theorem dX11_rule_72 : decode cX11_rule 72 = .ok (.aload_n 0, 1) := by decide +kernel
theorem dX11_rule_73 : decode cX11_rule 73 = .ok (.iconst 3, 1) := by decide +kernel
theorem dX11_rule_74 : decode cX11_rule 74 = .ok (.invokevirtual 47, 3) := by decide +kernel
theorem dX11_rule_77 : decode cX11_rule 77 = .ok (.ireturn, 1) := by decide +kernel
theorem dX11_rule_78 : decode cX11_rule 78 = .ok (.aload_n 3, 1) := by decide +kernel
theorem dX11_rule_79 : decode cX11_rule 79 = .ok (.getfield 161, 3) := by decide +kernel
theorem dX11_rule_82 : decode cX11_rule 82 = .ok (.bipush 16, 2) := by decide +kernel
theorem dX11_rule_84 : decode cX11_rule 84 = .ok (.if_icmp .lt 10, 3) := by decide +kernel
theorem dX11_rule_87 : decode cX11_rule 87 = .ok (.aload_n 0, 1) := by decide +kernel
theorem dX11_rule_88 : decode cX11_rule 88 = .ok (.bipush 9, 2) := by decide +kernel
theorem dX11_rule_90 : decode cX11_rule 90 = .ok (.invokevirtual 47, 3) := by decide +kernel
theorem dX11_rule_93 : decode cX11_rule 93 = .ok (.ireturn, 1) := by decide +kernel
theorem dX11_rule_94 : decode cX11_rule 94 = .ok (.aload_n 3, 1) := by decide +kernel
theorem dX11_rule_95 : decode cX11_rule 95 = .ok (.getfield 164, 3) := by decide +kernel
theorem dX11_rule_98 : decode cX11_rule 98 = .ok (.aload_n 3, 1) := by decide +kernel
theorem dX11_rule_99 : decode cX11_rule 99 = .ok (.getfield 161, 3) := by decide +kernel
theorem dX11_rule_102 : decode cX11_rule 102 = .ok (.new 157, 3) := by decide +kernel
theorem dX11_rule_105 : decode cX11_rule 105 = .ok (.dup, 1) := by decide +kernel
theorem dX11_rule_106 : decode cX11_rule 106 = .ok (.iload_n 2, 1) := by decide +kernel
theorem dX11_rule_107 : decode cX11_rule 107 = .ok (.aload 4, 2) := by decide +kernel
theorem dX11_rule_109 : decode cX11_rule 109 = .ok (.invokespecial 168, 3) := by decide +kernel
theorem dX11_rule_112 : decode cX11_rule 112 = .ok (.aastore, 1) := by decide +kernel
theorem dX11_rule_113 : decode cX11_rule 113 = .ok (.aload_n 3, 1) := by decide +kernel
theorem dX11_rule_114 : decode cX11_rule 114 = .ok (.dup, 1) := by decide +kernel
theorem dX11_rule_115 : decode cX11_rule 115 = .ok (.getfield 161, 3) := by decide +kernel
theorem dX11_rule_118 : decode cX11_rule 118 = .ok (.iconst 1, 1) := by decide +kernel
theorem dX11_rule_119 : decode cX11_rule 119 = .ok (.iadd, 1) := by decide +kernel
theorem dX11_rule_120 : decode cX11_rule 120 = .ok (.putfield 161, 3) := by decide +kernel
theorem dX11_rule_123 : decode cX11_rule 123 = .ok (.aload_n 0, 1) := by decide +kernel
theorem dX11_rule_124 : decode cX11_rule 124 = .ok (.aload_n 3, 1) := by decide +kernel
theorem dX11_rule_125 : decode cX11_rule 125 = .ok (.getfield 161, 3) := by decide +kernel
theorem dX11_rule_128 : decode cX11_rule 128 = .ok (.invokevirtual 57, 3) := by decide +kernel
theorem dX11_rule_131 : decode cX11_rule 131 = .ok (.ireturn, 1) := by decide +kernel
theorem dX11_leaf_0 : decode cX11_leaf 0 = .ok (.aload_n 0, 1) := by decide +kernel
theorem dX11_leaf_1 : decode cX11_leaf 1 = .ok (.iload_n 1, 1) := by decide +kernel
theorem dX11_leaf_2 : decode cX11_leaf 2 = .ok (.invokevirtual 65, 3) := by decide +kernel
theorem dX11_leaf_5 : decode cX11_leaf 5 = .ok (.astore 5, 2) := by decide +kernel
theorem dX11_leaf_7 : decode cX11_leaf 7 = .ok (.aload 5, 2) := by decide +kernel
theorem dX11_leaf_9 : decode cX11_leaf 9 = .ok (.ifnonnull 9, 3) := by decide +kernel
theorem dX11_leaf_12 : decode cX11_leaf 12 = .ok (.aload_n 0, 1) := by decide +kernel
theorem dX11_leaf_13 : decode cX11_leaf 13 = .ok (.iconst 1, 1) := by decide +kernel
theorem dX11_leaf_14 : decode cX11_leaf 14 = .ok (.invokevirtual 47, 3) := by decide +kernel
theorem dX11_leaf_17 : decode cX11_leaf 17 = .ok (.ireturn, 1) := by decide +kernel
theorem dX11_leaf_18 : decode cX11_leaf 18 = .ok (.iload_n 3, 1) := by decide +kernel
theorem dX11_leaf_19 : decode cX11_leaf 19 = .ok (.ifCond .lt 20, 3) := by decide +kernel
theorem dX11_leaf_22 : decode cX11_leaf 22 = .ok (.iload_n 3, 1) := by decide +kernel
theorem dX11_leaf_23 : decode cX11_leaf 23 = .ok (.iconst 3, 1) := by decide +kernel
theorem dX11_leaf_24 : decode cX11_leaf 24 = .ok (.if_icmp .ge 15, 3) := by decide +kernel
theorem dX11_leaf_27 : decode cX11_leaf 27 = .ok (.iload 4, 2) := by decide +kernel
theorem dX11_leaf_29 : decode cX11_leaf 29 = .ok (.ifCond .lt 10, 3) := by decide +kernel
theorem dX11_leaf_32 : decode cX11_leaf 32 = .ok (.iload 4, 2) := by decide +kernel
theorem dX11_leaf_34 : decode cX11_leaf 34 = .ok (.bipush 6, 2) := by decide +kernel
theorem dX11_leaf_36 : decode cX11_leaf 36 = .ok (.if_icmp .le 9, 3) := by decide +kernel
theorem dX11_leaf_39 : decode cX11_leaf 39 = .ok (.aload_n 0, 1) := by decide +kernel
theorem dX11_leaf_40 : decode cX11_leaf 40 = .ok (.iconst 2, 1) := by decide +kernel
theorem dX11_leaf_41 : decode cX11_leaf 41 = .ok (.invokevirtual 47, 3) := by decide +kernel
theorem dX11_leaf_44 : decode cX11_leaf 44 = .ok (.ireturn, 1) := by decide +kernel
theorem dX11_leaf_45 : decode cX11_leaf 45 = .ok (.aload 5, 2) := by decide +kernel
theorem dX11_leaf_47 : decode cX11_leaf 47 = .ok (.iload_n 2, 1) := by decide +kernel
theorem dX11_leaf_48 : decode cX11_leaf 48 = .ok (.invokevirtual 103, 3) := by decide +kernel
theorem dX11_leaf_51 : decode cX11_leaf 51 = .ok (.ifCond .ne 9, 3) := by decide +kernel
theorem dX11_leaf_54 : decode cX11_leaf 54 = .ok (.aload_n 0, 1) := by decide +kernel
theorem dX11_leaf_55 : decode cX11_leaf 55 = .ok (.iconst 3, 1) := by decide +kernel
theorem dX11_leaf_56 : decode cX11_leaf 56 = .ok (.invokevirtual 47, 3) := by decide +kernel
theorem dX11_leaf_59 : decode cX11_leaf 59 = .ok (.ireturn, 1) := by decide +kernel
theorem dX11_leaf_60 : decode cX11_leaf 60 = .ok (.aload 5, 2) := by decide +kernel
theorem dX11_leaf_62 : decode cX11_leaf 62 = .ok (.getfield 178, 3) := by decide +kernel
theorem dX11_leaf_65 : decode cX11_leaf 65 = .ok (.iload_n 2, 1) := by decide +kernel
theorem dX11_leaf_66 : decode cX11_leaf 66 = .ok (.new 182, 3) := by decide +kernel
theorem dX11_leaf_69 : decode cX11_leaf 69 = .ok (.dup, 1) := by decide +kernel
theorem dX11_leaf_70 : decode cX11_leaf 70 = .ok (.iload_n 3, 1) := by decide +kernel
theorem dX11_leaf_71 : decode cX11_leaf 71 = .ok (.iload 4, 2) := by decide +kernel
theorem dX11_leaf_73 : decode cX11_leaf 73 = .ok (.invokespecial 184, 3) := by decide +kernel
theorem dX11_leaf_76 : decode cX11_leaf 76 = .ok (.aastore, 1) := by decide +kernel
theorem dX11_leaf_77 : decode cX11_leaf 77 = .ok (.aload 5, 2) := by decide +kernel
theorem dX11_leaf_79 : decode cX11_leaf 79 = .ok (.getfield 187, 3) := by decide +kernel
theorem dX11_leaf_82 : decode cX11_leaf 82 = .ok (.invokevirtual 191, 3) := by decide +kernel
theorem dX11_leaf_85 : decode cX11_leaf 85 = .ok (.aload_n 0, 1) := by decide +kernel
theorem dX11_leaf_86 : decode cX11_leaf 86 = .ok (.iload 4, 2) := by decide +kernel
theorem dX11_leaf_88 : decode cX11_leaf 88 = .ok (.invokevirtual 57, 3) := by decide +kernel
theorem dX11_leaf_91 : decode cX11_leaf 91 = .ok (.ireturn, 1) := by decide +kernel
theorem wd_542 : Cond.classLink RX2 18 RX9 ∈ lw_good := mem_t1 131 (by decide +kernel) rfl
theorem wd_543 : Cond.instantiable RX9 16 ∈ lw_good := mem_t2 180 (by decide +kernel) rfl
theorem wd_544 : Cond.code yX9_init cX9_init 6 none ∈ lw_good := mem_t2 183 rfl rfl
theorem wd_545 : Cond.methodLink RX2 105 yX9_init ∈ lw_good := mem_t2 181 (by decide +kernel) rfl
theorem wd_546 : Cond.instanceMethod yX9_init ∈ lw_good := mem_t2 182 (by decide +kernel) rfl
theorem wd_547 : Cond.fieldLink RX2 117 RX9 "number" "I" ∈ lw_good := mem_t2 186 (by decide +kernel) rfl
theorem wd_548 : Cond.fieldLink RX2 62 RX2 "number" "I" ∈ lw_good := mem_t1 208 (by decide +kernel) rfl
theorem wd_549 : Cond.methodLink RX11 96 yX5_forget ∈ lw_good := mem_t2 127 (by decide +kernel) rfl
theorem wd_550 : Cond.instanceMethod yX5_forget ∈ lw_good := mem_t2 128 (by decide +kernel) rfl
theorem wd_551 : Cond.selects RX5 yX5_forget yX5_forget ∈ lw_good := mem_t2 129 (by decide +kernel) rfl
theorem wd_552 : Cond.code yX5_forget cX5_forget 1 none ∈ lw_good := mem_t2 130 rfl rfl
theorem wd_553 : Cond.methodLink RX11 99 yX11_partnerAt ∈ lw_good := mem_t2 131 (by decide +kernel) rfl
theorem wd_554 : Cond.instanceMethod yX11_partnerAt ∈ lw_good := mem_t2 133 (by decide +kernel) rfl
theorem wd_555 : Cond.selects RX11 yX11_partnerAt yX11_partnerAt ∈ lw_good := mem_p 4 (by decide +kernel) rfl
theorem wd_556 : Cond.code yX11_partnerAt cX11_partnerAt 2 (some (.object "PartnersBook$Partner")) ∈ lw_good := mem_t2 134 rfl rfl
theorem wd_557 : Cond.methodLink RX11 106 yX2_isVacantFrom ∈ lw_good := mem_t2 142 (by decide +kernel) rfl
theorem wd_558 : Cond.instanceMethod yX2_isVacantFrom ∈ lw_good := mem_t2 143 (by decide +kernel) rfl
theorem wd_559 : Cond.selects RX2 yX2_isVacantFrom yX2_isVacantFrom ∈ lw_good := mem_t2 144 (by decide +kernel) rfl
theorem wd_560 : Cond.code yX2_isVacantFrom cX2_isVacantFrom 5 (some .boolean) ∈ lw_good := mem_t2 145 rfl rfl
theorem wd_561 : Cond.fieldLink RX11 110 RX4 "owner" "LPartnersBook$House;" ∈ lw_good := mem_t2 86 (by decide +kernel) rfl
theorem wd_562 : Cond.methodLink RX11 124 yX2_addTenure ∈ lw_good := mem_t2 176 (by decide +kernel) rfl
theorem wd_563 : Cond.instanceMethod yX2_addTenure ∈ lw_good := mem_t2 177 (by decide +kernel) rfl
theorem wd_564 : Cond.selects RX2 yX2_addTenure yX2_addTenure ∈ lw_good := mem_t2 178 (by decide +kernel) rfl
theorem wd_565 : Cond.code yX2_addTenure cX2_addTenure 6 (some .int) ∈ lw_good := mem_t2 179 rfl rfl
theorem wd_566 : Cond.fieldLink RX11 114 RX2 "number" "I" ∈ lw_good := mem_t1 209 (by decide +kernel) rfl
theorem wd_567 : Cond.methodLink RX11 117 yX5_trace ∈ lw_good := mem_t2 150 (by decide +kernel) rfl
theorem wd_568 : Cond.instanceMethod yX5_trace ∈ lw_good := mem_t2 151 (by decide +kernel) rfl
theorem wd_569 : Cond.selects RX5 yX5_trace yX5_trace ∈ lw_good := mem_t2 152 (by decide +kernel) rfl
theorem wd_570 : Cond.code yX5_trace cX5_trace 7 (some .boolean) ∈ lw_good := mem_t2 153 rfl rfl
theorem wd_571 : Cond.fieldLink RX11 136 RX4 "kind" "I" ∈ lw_good := mem_t2 80 (by decide +kernel) rfl
theorem wd_572 : Cond.fieldLink RX11 142 RX9 "heir" "LPartnersBook$Tenure;" ∈ lw_good := mem_t2 209 (by decide +kernel) rfl
theorem wd_573 : Cond.methodLink RX6 3 Lib.objectInit ∈ lw_good := mem_t3 51 (by decide +kernel) rfl
theorem wd_574 : Cond.fieldLink RX6 9 RX6 "day" "I" ∈ lw_good := mem_t3 55 (by decide +kernel) rfl
theorem wd_575 : Cond.methodLink RX6 22 arraycopyName ∈ lw_good := mem_t3 52 (by decide +kernel) rfl
theorem wd_576 : Cond.native arraycopyName ∈ lw_good := mem_t3 54 (by decide +kernel) rfl
theorem wd_577 : Cond.static arraycopyName ∈ lw_good := mem_t3 53 (by decide +kernel) rfl
theorem wd_578 : Cond.initialized "java/lang/System" ∈ lw_good := mem_t1 15 (by decide +kernel) rfl
theorem wd_579 : Cond.fieldLink RX11 164 RX2 "rules" "[LPartnersBook$Rule;" ∈ lw_good := mem_t1 231 (by decide +kernel) rfl
theorem wd_580 : Cond.classLink RX11 157 RX6 ∈ lw_good := mem_t3 46 (by decide +kernel) rfl
theorem wd_581 : Cond.instantiable RX6 3 ∈ lw_good := mem_t3 47 (by decide +kernel) rfl
theorem wd_582 : Cond.code yX6_init cX6_init 3 none ∈ lw_good := mem_t3 50 rfl rfl
theorem wd_583 : Cond.methodLink RX11 168 yX6_init ∈ lw_good := mem_t3 48 (by decide +kernel) rfl
theorem wd_584 : Cond.instanceMethod yX6_init ∈ lw_good := mem_t3 49 (by decide +kernel) rfl
theorem wd_585 : Cond.fieldLink RX11 156 RX6 "day" "I" ∈ lw_good := mem_t3 57 (by decide +kernel) rfl
theorem wd_586 : Cond.methodLink RX11 60 yX11_isLimitedKind ∈ lw_good := mem_t2 63 (by decide +kernel) rfl
theorem wd_587 : Cond.classLink RX11 15 RX4 ∈ lw_good := mem_t1 28 (by decide +kernel) rfl
theorem wd_588 : Cond.instantiable RX4 4 ∈ lw_good := mem_t2 71 (by decide +kernel) rfl
theorem wd_589 : Cond.code yX4_init cX4_init 5 none ∈ lw_good := mem_t2 74 rfl rfl
theorem wd_590 : Cond.methodLink RX11 72 yX4_init ∈ lw_good := mem_t2 72 (by decide +kernel) rfl
theorem wd_591 : Cond.instanceMethod yX4_init ∈ lw_good := mem_t2 73 (by decide +kernel) rfl
theorem wd_592 : Cond.classLink RX11 182 RX3 ∈ lw_good := mem_t3 85 (by decide +kernel) rfl
theorem wd_593 : Cond.instantiable RX3 3 ∈ lw_good := mem_t3 86 (by decide +kernel) rfl
theorem wd_594 : Cond.code yX3_init cX3_init 3 none ∈ lw_good := mem_t3 89 rfl rfl
theorem wd_595 : Cond.methodLink RX11 184 yX3_init ∈ lw_good := mem_t3 87 (by decide +kernel) rfl
theorem wd_596 : Cond.instanceMethod yX3_init ∈ lw_good := mem_t3 88 (by decide +kernel) rfl
section PCOPY
variable {p : Program} {l : Launch} {e : Env} {R : Room} {s : State} {m : MethodId} {args : Array Value} {below : List Frame} {meth : Method} {c : Code} {H : Heap} {locs : List Loc} {cells slots : Nat} {Q : State → Prop}
variable {cc : ByteArray} {pc : Nat} {ls : Array Slot} {rest : List Value} {D : va_G} {A : Nat → Prop} {a : Nat} {tys : List (ClassId × FieldType)} {E : va_W} {L : List Nat} {M : Hp} {H0 : Heap}
theorem pg_copyi (hexec : p.tables.exec = Jvm.exec) (hb : c.code = cc) (hml : c.maxLocals = ls.size) {own : String} {index : Nat} (hown : s.vm.findClass own = some m.cls) (hlink : (Cond.methodLink own index arraycopyName).before args s = true) (hnat : (Cond.native arraycopyName).before args s = true) (hstat : (Cond.static arraycopyName).before args s = true) (hini : (Cond.initialized "java/lang/System").before args s = true)
    (hK : va_K D vwCl tys s) (hP : va_P D vwCl (E ++ va_pl L M) H) (hD : va_D A (E ++ va_pl L M)) (hS : va_S A H0 H locs) {a0 : Nat} (haL : a0 ∈ L) (q1 t0 : Nat) {c0 : ClassId} {n0 n1 : Nat} {f g : Nat → Int32} (hM : M a0 = .inl (c0, n0, .inl f)) (ha1 : E[q1]? = some (a, .inl (c0, n1, .inl g))) (ht0 : tys[t0]? = some (c0, .int))
    {sp dp n : Int32} (h1 : ¬ sp < 0) (h2 : ¬ dp < 0) (h3 : ¬ n < 0) (h4 : sp.toNatClampNeg + n.toNatClampNeg ≤ n0) (h5 : dp.toNatClampNeg + n.toNatClampNeg ≤ n1)
    (hframes : 1 ≤ R.frames) (hlocals : (rest.map fun v => v.category).sum + (nativeFrameWords "java/lang/System" "arraycopy" 5 + 11) ≤ R.locals) (hdg : decode cc pc = .ok (.invokestatic index, 3))
    (kk : ∀ (H1 : Heap) (locs1 : List Loc), va_P D vwCl (E.set q1 (a, .inl (c0, n1, .inl (va_cpy f g sp.toNatClampNeg dp.toNatClampNeg n.toNatClampNeg))) ++ va_pl L M) H1 → va_D A (E.set q1 (a, .inl (c0, n1, .inl (va_cpy f g sp.toNatClampNeg dp.toNatClampNeg n.toNatClampNeg))) ++ va_pl L M) → va_S A H0 H1 locs1 → W p l e R s m args below meth c H1 locs1 cells slots Q (F0 m (pc + 3) ls rest)) : W p l e R s m args below meth c H locs cells slots Q (F0 m pc ls (.int n :: .int dp :: .ref a :: .int sp :: .ref a0 :: rest)) := by
  obtain ⟨q0, hq⟩ := va_pl_get (X := E) (f := M) haL
  rw [hM] at hq
  have hlt : q1 < E.length := (List.getElem?_eq_some_iff.mp ha1).1
  have hq1 : (E ++ va_pl L M)[q1]? = some (a, .inl (c0, n1, .inl g)) := by rw [List.getElem?_append_left hlt]; exact ha1
  refine va_copyi hexec hb hml hown hlink hnat hstat hini hK hP hD hS q0 q1 t0 t0 hq hq1 ht0 ht0 rfl h1 h2 h3 h4 h5 (fun _ _ => rfl) hframes hlocals hdg (fun H1 locs1 hP1 hD1 hS1 => ?_)
  rw [List.set_append_left _ _ hlt] at hP1 hD1
  exact kk H1 locs1 hP1 hD1 hS1
end PCOPY
set_option maxHeartbeats 4000000 in
set_option maxRecDepth 100000 in
theorem k_Rule_n (l : Launch) (D : va_G) (sz : Nat) (oa : Nat) (k1 : Int32) : Met l yX6_init (wsM yX6_init cX6_init 3 none) ({ frames := 1, cells := 1, slots := 24, locals := 12 }) (va_Pc [.ref oa, .int k1, .null] (Pr D [(oa, .inr (6, [.int 0, .int 0, .null]))] [] sz)) (va_Qv (fun _ : Unit => True) (fun _ t => ∃ (e0 : Nat) (c0 : ClassId), Po D [(oa, (b6_13 k1 0 e0)), (e0, .inl (c0, 24, .inl (fun _ => 0)))] [(c0, .int)] (va_A [(oa, .inr (6, [.int 0, .int 0, .null]))] sz) t) (va_A [(oa, .inr (6, [.int 0, .int 0, .null]))] sz)) 1 24 (va_A [(oa, .inr (6, [.int 0, .int 0, .null]))] sz) := by
  refine Met.ofW (cc := cX6_init) (maxL := 3) (ret := none) (by decide) rfl ?_
  intro p e s m args below meth c s₁ B hml hv
  obtain ⟨rfl, hsz, hP, hK, hD0, hN⟩ := hv
  have hx := B.exec
  have hb := B.bytes
  have hr := B.returns
  have hts := atoms_spec (ws := (wsM yX6_init cX6_init 3 none)) B.pre
  have hg : ∀ w ∈ lw_good, w.before _ s = true := fun w h => hts w (List.mem_cons_of_mem _ h)
  have hown : s.vm.findClass RX6 = some m.cls := findClass_of_methodNamed B.named
  have hlocks := B.notSynchronized
  have hin : meth.name = "<init>" := (name_of_methodNamed B.named B.method).1
  subst hsz
  have hD := hD0.self (sz := s.heap.size)
  generalize hAe : va_A [(oa, .inr (6, [.int 0, .int 0, .null]))] s.heap.size = A at hD ⊢
  have hA : ∀ q : Nat, s.heap.size ≤ q → A q := fun q h => by rw [← hAe]; exact Or.inr h
  have hS : va_S A s.heap s.heap [] := va_S.rf
  have hP : va_P D vwCl [(oa, .inr (6, [.int 0, .int 0, .null]))] s.heap := hP
  have hl := lv_entry ([.ref oa, .int k1, .null]) (n := 3) (Nat.le_of_ble_eq_true rfl)
  rw [lg_entry_eq]
  generalize (lg_sl ([.ref oa, .int k1, .null]) ++ List.replicate (3 - (lg_sl ([.ref oa, .int k1, .null])).length) Slot.unset).toArray = ls at hl ⊢
  have hl : lv_has ls 3 [(0, .ref oa), (1, .int k1), (2, .null)] := hl
  refine lv_aload_n hx hb dX6_init_0 rfl (lv_at hl 0 rfl) ?_
  refine W.objInit hx hb hown (hg _ wd_573) (hg _ wd_525) (hg _ wd_obj) rfl (by rw [hml]; exact hl.1) rfl dX6_init_1 (Nat.le_of_ble_eq_true rfl) (Nat.le_of_ble_eq_true rfl) ?_
  refine W.eq (g2 := F0 m 4 ls []) rfl ?_
  refine lv_aload_n hx hb dX6_init_4 rfl (lv_at hl 0 rfl) ?_
  refine lv_iload_n hx hb dX6_init_5 rfl (lv_at hl 1 rfl) ?_
  refine va_putF (D := D) (ci := 6) (v := .int k1) (ty := .int) (C := RX6) (T := TX6) (N := 3) hx hb hg inG6 tyX6 tyX6_ok nmX6 hown hK hP hD hS 0 rfl rfl 0 (by decide) (hg _ wd_574) (fun _ h9 => h9) rfl hin rfl (by decide +kernel) rfl rfl (Nat.le_of_ble_eq_true rfl) dX6_init_6 (fun H_1 locs hP hD hS => ?_)
  have hP : va_P D vwCl [(oa, .inr (6, [.int k1, .int 0, .null]))] H_1 := hP
  have hD : va_D A [(oa, .inr (6, [.int k1, .int 0, .null]))] := hD
  refine lv_aload_n hx hb dX6_init_9 rfl (lv_at hl 0 rfl) ?_
  refine lv_bipush (v := 24) hx hb dX6_init_10 (by decide) ?_
  refine va_newa (atype := .int) (ty := .int) (a0 := (24, .inl (fun _ => 0))) hx hb (hg _ wd_531) rfl hK hP hD hS hA (fun cA => rfl) (by decide) (by decide) (Nat.le_of_ble_eq_true rfl) (Nat.le_of_ble_eq_true rfl) (Nat.le_of_ble_eq_true rfl) dX6_init_12 (fun q_2 cA_4 H_3 hK hP hD hS => ?_)
  have hK : va_K D vwCl [(cA_4, .int)] s := hK
  have hP : va_P D vwCl [(oa, .inr (6, [.int k1, .int 0, .null])), (q_2, .inl (cA_4, 24, .inl (fun _ => 0)))] H_3 := hP
  have hD : va_D A [(oa, .inr (6, [.int k1, .int 0, .null])), (q_2, .inl (cA_4, 24, .inl (fun _ => 0)))] := hD
  refine W.widen (k := 1) (n := 24) (Nat.le_of_ble_eq_true rfl) (Nat.le_of_ble_eq_true rfl) ?_
  refine va_putF (D := D) (ci := 6) (v := .ref q_2) (ty := .array .int) (C := RX6) (T := TX6) (N := 3) hx hb hg inG6 tyX6 tyX6_ok nmX6 hown hK hP hD hS 0 rfl rfl 2 (by decide) (hg _ wd_93) (fun _ h9 => h9) rfl hin rfl (by decide +kernel) rfl rfl (Nat.le_of_ble_eq_true rfl) dX6_init_14 (fun H_5 locs hP hD hS => ?_)
  have hP : va_P D vwCl [(oa, (b6_13 k1 0 q_2)), (q_2, .inl (cA_4, 24, .inl (fun _ => 0)))] H_5 := hP
  have hD : va_D A [(oa, (b6_13 k1 0 q_2)), (q_2, .inl (cA_4, 24, .inl (fun _ => 0)))] := hD
  refine lv_aload_nN hx hb dX6_init_17 rfl (lv_at hl 2 rfl) ?_
  refine lv_ifnullN (tgt := 47) hx hb dX6_init_18 (by decide) ?_
  have hP9 := hP.sub (ws' := [(oa, (b6_13 k1 0 q_2)), (q_2, .inl (cA_4, 24, .inl (fun _ => 0)))]) [0, 1] rfl
  have hD9 := hD.sub (ws' := [(oa, (b6_13 k1 0 q_2)), (q_2, .inl (cA_4, 24, .inl (fun _ => 0)))]) [0, 1] (by decide) rfl
  have hK9 := hK.sub (tys' := [(cA_4, .int)]) [0] rfl
  exact W.vret hx hb hr (fun t ht hW => ⟨⟨(), rfl, trivial, ⟨q_2, cA_4, by rw [ht]; exact hP9, va_K.moved hW.alike hK9, hD9⟩⟩, hS.F ht⟩) hS.2.2 dX6_init_47
theorem lit7 {x : Int32} (h0 : ¬ x < 0) (h1 : x ≤ 6) : x = 0 ∨ x = 1 ∨ x = 2 ∨ x = 3 ∨ x = 4 ∨ x = 5 ∨ x = 6 := by
  have h2 := Int32.le_iff_toInt_le.mp (Int32.not_lt.mp h0)
  have h3 := Int32.le_iff_toInt_le.mp h1
  have e0 : (0 : Int32).toInt = 0 := rfl
  have e6 : (6 : Int32).toInt = 6 := rfl
  rw [e0] at h2
  rw [e6] at h3
  rcases (show x.toInt = 0 ∨ x.toInt = 1 ∨ x.toInt = 2 ∨ x.toInt = 3 ∨ x.toInt = 4 ∨ x.toInt = 5 ∨ x.toInt = 6 by omega) with q | q | q | q | q | q | q
  · exact Or.inl (Int32.toInt.inj q)
  · exact Or.inr (Or.inl (Int32.toInt.inj q))
  · exact Or.inr (Or.inr (Or.inl (Int32.toInt.inj q)))
  · exact Or.inr (Or.inr (Or.inr (Or.inl (Int32.toInt.inj q))))
  · exact Or.inr (Or.inr (Or.inr (Or.inr (Or.inl (Int32.toInt.inj q)))))
  · exact Or.inr (Or.inr (Or.inr (Or.inr (Or.inr (Or.inl (Int32.toInt.inj q))))))
  · exact Or.inr (Or.inr (Or.inr (Or.inr (Or.inr (Or.inr (Int32.toInt.inj q))))))
