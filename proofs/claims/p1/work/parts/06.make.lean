theorem dX0_init_0 : decode cX0_init 0 = .ok (.aload_n 0, 1) := by decide +kernel
theorem dX0_init_1 : decode cX0_init 1 = .ok (.invokespecial 3, 3) := by decide +kernel
theorem dX0_init_4 : decode cX0_init 4 = .ok (.aload_n 0, 1) := by decide +kernel
theorem dX0_init_5 : decode cX0_init 5 = .ok (.bipush 120, 2) := by decide +kernel
theorem dX0_init_7 : decode cX0_init 7 = .ok (.anewarray 9, 3) := by decide +kernel
theorem dX0_init_10 : decode cX0_init 10 = .ok (.putfield 11, 3) := by decide +kernel
theorem dX0_init_13 : decode cX0_init 13 = .ok (.aload_n 0, 1) := by decide +kernel
theorem dX0_init_14 : decode cX0_init 14 = .ok (.bipush 100, 2) := by decide +kernel
theorem dX0_init_16 : decode cX0_init 16 = .ok (.newarray .long, 2) := by decide +kernel
theorem dX0_init_18 : decode cX0_init 18 = .ok (.putfield 17, 3) := by decide +kernel
theorem dX0_init_21 : decode cX0_init 21 = .ok (.aload_n 0, 1) := by decide +kernel
theorem dX0_init_22 : decode cX0_init 22 = .ok (.aload_n 1, 1) := by decide +kernel
theorem dX0_init_23 : decode cX0_init 23 = .ok (.putfield 21, 3) := by decide +kernel
theorem dX0_init_26 : decode cX0_init 26 = .ok (.return_, 1) := by decide +kernel
theorem dX1_init_0 : decode cX1_init 0 = .ok (.aload_n 0, 1) := by decide +kernel
theorem dX1_init_1 : decode cX1_init 1 = .ok (.invokespecial 1, 3) := by decide +kernel
theorem dX1_init_4 : decode cX1_init 4 = .ok (.iconst 0, 1) := by decide +kernel
theorem dX1_init_5 : decode cX1_init 5 = .ok (.iload_n 1, 1) := by decide +kernel
theorem dX1_init_6 : decode cX1_init 6 = .ok (.invokestatic 7, 3) := by decide +kernel
theorem dX1_init_9 : decode cX1_init 9 = .ok (.istore_n 2, 1) := by decide +kernel
theorem dX1_init_10 : decode cX1_init 10 = .ok (.aload_n 0, 1) := by decide +kernel
theorem dX1_init_11 : decode cX1_init 11 = .ok (.iload_n 2, 1) := by decide +kernel
theorem dX1_init_12 : decode cX1_init 12 = .ok (.anewarray 13, 3) := by decide +kernel
theorem dX1_init_15 : decode cX1_init 15 = .ok (.putfield 15, 3) := by decide +kernel
theorem dX1_init_18 : decode cX1_init 18 = .ok (.aload_n 0, 1) := by decide +kernel
theorem dX1_init_19 : decode cX1_init 19 = .ok (.iload_n 2, 1) := by decide +kernel
theorem dX1_init_20 : decode cX1_init 20 = .ok (.newarray .int, 2) := by decide +kernel
theorem dX1_init_22 : decode cX1_init 22 = .ok (.putfield 21, 3) := by decide +kernel
theorem dX1_init_25 : decode cX1_init 25 = .ok (.aload_n 0, 1) := by decide +kernel
theorem dX1_init_26 : decode cX1_init 26 = .ok (.iload_n 2, 1) := by decide +kernel
theorem dX1_init_27 : decode cX1_init 27 = .ok (.newarray .int, 2) := by decide +kernel
theorem dX1_init_29 : decode cX1_init 29 = .ok (.putfield 25, 3) := by decide +kernel
theorem dX1_init_32 : decode cX1_init 32 = .ok (.return_, 1) := by decide +kernel
theorem dX2_init_0 : decode cX2_init 0 = .ok (.aload_n 0, 1) := by decide +kernel
theorem dX2_init_1 : decode cX2_init 1 = .ok (.invokespecial 3, 3) := by decide +kernel
theorem dX2_init_4 : decode cX2_init 4 = .ok (.aload_n 0, 1) := by decide +kernel
theorem dX2_init_5 : decode cX2_init 5 = .ok (.bipush 12, 2) := by decide +kernel
theorem dX2_init_7 : decode cX2_init 7 = .ok (.newarray .int, 2) := by decide +kernel
theorem dX2_init_9 : decode cX2_init 9 = .ok (.putfield 9, 3) := by decide +kernel
theorem dX2_init_12 : decode cX2_init 12 = .ok (.aload_n 0, 1) := by decide +kernel
theorem dX2_init_13 : decode cX2_init 13 = .ok (.bipush 6, 2) := by decide +kernel
theorem dX2_init_15 : decode cX2_init 15 = .ok (.newarray .int, 2) := by decide +kernel
theorem dX2_init_17 : decode cX2_init 17 = .ok (.putfield 15, 3) := by decide +kernel
theorem dX2_init_20 : decode cX2_init 20 = .ok (.aload_n 0, 1) := by decide +kernel
theorem dX2_init_21 : decode cX2_init 21 = .ok (.bipush 6, 2) := by decide +kernel
theorem dX2_init_23 : decode cX2_init 23 = .ok (.anewarray 18, 3) := by decide +kernel
theorem dX2_init_26 : decode cX2_init 26 = .ok (.putfield 20, 3) := by decide +kernel
theorem dX2_init_29 : decode cX2_init 29 = .ok (.aload_n 0, 1) := by decide +kernel
theorem dX2_init_30 : decode cX2_init 30 = .ok (.bipush 24, 2) := by decide +kernel
theorem dX2_init_32 : decode cX2_init 32 = .ok (.anewarray 18, 3) := by decide +kernel
theorem dX2_init_35 : decode cX2_init 35 = .ok (.putfield 24, 3) := by decide +kernel
theorem dX2_init_38 : decode cX2_init 38 = .ok (.aload_n 0, 1) := by decide +kernel
theorem dX2_init_39 : decode cX2_init 39 = .ok (.bipush 16, 2) := by decide +kernel
theorem dX2_init_41 : decode cX2_init 41 = .ok (.anewarray 27, 3) := by decide +kernel
theorem dX2_init_44 : decode cX2_init 44 = .ok (.putfield 29, 3) := by decide +kernel
theorem dX2_init_47 : decode cX2_init 47 = .ok (.aload_n 0, 1) := by decide +kernel
theorem dX2_init_48 : decode cX2_init 48 = .ok (.sipush 1000, 3) := by decide +kernel
theorem dX2_init_51 : decode cX2_init 51 = .ok (.anewarray 33, 3) := by decide +kernel
theorem dX2_init_54 : decode cX2_init 54 = .ok (.putfield 35, 3) := by decide +kernel
theorem dX2_init_57 : decode cX2_init 57 = .ok (.aload_n 0, 1) := by decide +kernel
theorem dX2_init_58 : decode cX2_init 58 = .ok (.sipush 1000, 3) := by decide +kernel
theorem dX2_init_61 : decode cX2_init 61 = .ok (.newarray .long, 2) := by decide +kernel
theorem dX2_init_63 : decode cX2_init 63 = .ok (.putfield 39, 3) := by decide +kernel
theorem dX2_init_66 : decode cX2_init 66 = .ok (.aload_n 0, 1) := by decide +kernel
theorem dX2_init_67 : decode cX2_init 67 = .ok (.new 43, 3) := by decide +kernel
theorem dX2_init_70 : decode cX2_init 70 = .ok (.dup, 1) := by decide +kernel
theorem dX2_init_71 : decode cX2_init 71 = .ok (.bipush 120, 2) := by decide +kernel
theorem dX2_init_73 : decode cX2_init 73 = .ok (.invokespecial 45, 3) := by decide +kernel
theorem dX2_init_76 : decode cX2_init 76 = .ok (.putfield 48, 3) := by decide +kernel
theorem dX2_init_79 : decode cX2_init 79 = .ok (.aload_n 0, 1) := by decide +kernel
theorem dX2_init_80 : decode cX2_init 80 = .ok (.new 43, 3) := by decide +kernel
theorem dX2_init_83 : decode cX2_init 83 = .ok (.dup, 1) := by decide +kernel
theorem dX2_init_84 : decode cX2_init 84 = .ok (.bipush 20, 2) := by decide +kernel
theorem dX2_init_86 : decode cX2_init 86 = .ok (.invokespecial 45, 3) := by decide +kernel
theorem dX2_init_89 : decode cX2_init 89 = .ok (.putfield 52, 3) := by decide +kernel
theorem dX2_init_92 : decode cX2_init 92 = .ok (.aload_n 0, 1) := by decide +kernel
theorem dX2_init_93 : decode cX2_init 93 = .ok (.new 55, 3) := by decide +kernel
theorem dX2_init_96 : decode cX2_init 96 = .ok (.dup, 1) := by decide +kernel
theorem dX2_init_97 : decode cX2_init 97 = .ok (.invokespecial 57, 3) := by decide +kernel
theorem dX2_init_100 : decode cX2_init 100 = .ok (.putfield 58, 3) := by decide +kernel
theorem dX2_init_103 : decode cX2_init 103 = .ok (.aload_n 0, 1) := by decide +kernel
theorem dX2_init_104 : decode cX2_init 104 = .ok (.iload_n 1, 1) := by decide +kernel
theorem dX2_init_105 : decode cX2_init 105 = .ok (.putfield 62, 3) := by decide +kernel
theorem dX2_init_108 : decode cX2_init 108 = .ok (.aload_n 0, 1) := by decide +kernel
theorem dX2_init_109 : decode cX2_init 109 = .ok (.iload_n 2, 1) := by decide +kernel
theorem dX2_init_110 : decode cX2_init 110 = .ok (.putfield 66, 3) := by decide +kernel
theorem dX2_init_113 : decode cX2_init 113 = .ok (.aload_n 0, 1) := by decide +kernel
theorem dX2_init_114 : decode cX2_init 114 = .ok (.iload_n 2, 1) := by decide +kernel
theorem dX2_init_115 : decode cX2_init 115 = .ok (.iconst 1, 1) := by decide +kernel
theorem dX2_init_116 : decode cX2_init 116 = .ok (.isub, 1) := by decide +kernel
theorem dX2_init_117 : decode cX2_init 117 = .ok (.putfield 69, 3) := by decide +kernel
theorem dX2_init_120 : decode cX2_init 120 = .ok (.aload_n 0, 1) := by decide +kernel
theorem dX2_init_121 : decode cX2_init 121 = .ok (.new 72, 3) := by decide +kernel
theorem dX2_init_124 : decode cX2_init 124 = .ok (.dup, 1) := by decide +kernel
theorem dX2_init_125 : decode cX2_init 125 = .ok (.aload_n 3, 1) := by decide +kernel
theorem dX2_init_126 : decode cX2_init 126 = .ok (.invokespecial 74, 3) := by decide +kernel
theorem dX2_init_129 : decode cX2_init 129 = .ok (.putfield 77, 3) := by decide +kernel
theorem dX2_init_132 : decode cX2_init 132 = .ok (.return_, 1) := by decide +kernel
theorem dX4_init_0 : decode cX4_init 0 = .ok (.aload_n 0, 1) := by decide +kernel
theorem dX4_init_1 : decode cX4_init 1 = .ok (.invokespecial 3, 3) := by decide +kernel
theorem dX4_init_4 : decode cX4_init 4 = .ok (.aload_n 0, 1) := by decide +kernel
theorem dX4_init_5 : decode cX4_init 5 = .ok (.iload_n 1, 1) := by decide +kernel
theorem dX4_init_6 : decode cX4_init 6 = .ok (.putfield 9, 3) := by decide +kernel
theorem dX4_init_9 : decode cX4_init 9 = .ok (.aload_n 0, 1) := by decide +kernel
theorem dX4_init_10 : decode cX4_init 10 = .ok (.iload_n 2, 1) := by decide +kernel
theorem dX4_init_11 : decode cX4_init 11 = .ok (.putfield 15, 3) := by decide +kernel
theorem dX4_init_14 : decode cX4_init 14 = .ok (.aload_n 0, 1) := by decide +kernel
theorem dX4_init_15 : decode cX4_init 15 = .ok (.iload_n 3, 1) := by decide +kernel
theorem dX4_init_16 : decode cX4_init 16 = .ok (.putfield 18, 3) := by decide +kernel
theorem dX4_init_19 : decode cX4_init 19 = .ok (.aload_n 0, 1) := by decide +kernel
theorem dX4_init_20 : decode cX4_init 20 = .ok (.aload 4, 2) := by decide +kernel
theorem dX4_init_22 : decode cX4_init 22 = .ok (.putfield 21, 3) := by decide +kernel
theorem dX4_init_25 : decode cX4_init 25 = .ok (.return_, 1) := by decide +kernel
theorem dX5_init_0 : decode cX5_init 0 = .ok (.aload_n 0, 1) := by decide +kernel
theorem dX5_init_1 : decode cX5_init 1 = .ok (.invokespecial 3, 3) := by decide +kernel
theorem dX5_init_4 : decode cX5_init 4 = .ok (.aload_n 0, 1) := by decide +kernel
theorem dX5_init_5 : decode cX5_init 5 = .ok (.bipush 8, 2) := by decide +kernel
theorem dX5_init_7 : decode cX5_init 7 = .ok (.newarray .int, 2) := by decide +kernel
theorem dX5_init_9 : decode cX5_init 9 = .ok (.putfield 9, 3) := by decide +kernel
theorem dX5_init_12 : decode cX5_init 12 = .ok (.aload_n 0, 1) := by decide +kernel
theorem dX5_init_13 : decode cX5_init 13 = .ok (.bipush 8, 2) := by decide +kernel
theorem dX5_init_15 : decode cX5_init 15 = .ok (.newarray .int, 2) := by decide +kernel
theorem dX5_init_17 : decode cX5_init 17 = .ok (.putfield 15, 3) := by decide +kernel
theorem dX5_init_20 : decode cX5_init 20 = .ok (.return_, 1) := by decide +kernel
theorem dX7_init_0 : decode cX7_init 0 = .ok (.aload_n 0, 1) := by decide +kernel
theorem dX7_init_1 : decode cX7_init 1 = .ok (.invokespecial 3, 3) := by decide +kernel
theorem dX7_init_4 : decode cX7_init 4 = .ok (.aload_n 0, 1) := by decide +kernel
theorem dX7_init_5 : decode cX7_init 5 = .ok (.bipush 100, 2) := by decide +kernel
theorem dX7_init_7 : decode cX7_init 7 = .ok (.anewarray 9, 3) := by decide +kernel
theorem dX7_init_10 : decode cX7_init 10 = .ok (.putfield 11, 3) := by decide +kernel
theorem dX7_init_13 : decode cX7_init 13 = .ok (.aload_n 0, 1) := by decide +kernel
theorem dX7_init_14 : decode cX7_init 14 = .ok (.bipush 100, 2) := by decide +kernel
theorem dX7_init_16 : decode cX7_init 16 = .ok (.newarray .long, 2) := by decide +kernel
theorem dX7_init_18 : decode cX7_init 18 = .ok (.putfield 17, 3) := by decide +kernel
theorem dX7_init_21 : decode cX7_init 21 = .ok (.aload_n 0, 1) := by decide +kernel
theorem dX7_init_22 : decode cX7_init 22 = .ok (.bipush 100, 2) := by decide +kernel
theorem dX7_init_24 : decode cX7_init 24 = .ok (.newarray .long, 2) := by decide +kernel
theorem dX7_init_26 : decode cX7_init 26 = .ok (.putfield 21, 3) := by decide +kernel
theorem dX7_init_29 : decode cX7_init 29 = .ok (.aload_n 0, 1) := by decide +kernel
theorem dX7_init_30 : decode cX7_init 30 = .ok (.bipush 100, 2) := by decide +kernel
theorem dX7_init_32 : decode cX7_init 32 = .ok (.newarray .long, 2) := by decide +kernel
theorem dX7_init_34 : decode cX7_init 34 = .ok (.putfield 24, 3) := by decide +kernel
theorem dX7_init_37 : decode cX7_init 37 = .ok (.aload_n 0, 1) := by decide +kernel
theorem dX7_init_38 : decode cX7_init 38 = .ok (.bipush 100, 2) := by decide +kernel
theorem dX7_init_40 : decode cX7_init 40 = .ok (.newarray .long, 2) := by decide +kernel
theorem dX7_init_42 : decode cX7_init 42 = .ok (.putfield 27, 3) := by decide +kernel
theorem dX7_init_45 : decode cX7_init 45 = .ok (.return_, 1) := by decide +kernel
theorem dX10_init_0 : decode cX10_init 0 = .ok (.aload_n 0, 1) := by decide +kernel
theorem dX10_init_1 : decode cX10_init 1 = .ok (.invokespecial 3, 3) := by decide +kernel
theorem dX10_init_4 : decode cX10_init 4 = .ok (.aload_n 0, 1) := by decide +kernel
theorem dX10_init_5 : decode cX10_init 5 = .ok (.bipush 60, 2) := by decide +kernel
theorem dX10_init_7 : decode cX10_init 7 = .ok (.newarray .int, 2) := by decide +kernel
theorem dX10_init_9 : decode cX10_init 9 = .ok (.putfield 9, 3) := by decide +kernel
theorem dX10_init_12 : decode cX10_init 12 = .ok (.return_, 1) := by decide +kernel
theorem dX11_init_0 : decode cX11_init 0 = .ok (.aload_n 0, 1) := by decide +kernel
theorem dX11_init_1 : decode cX11_init 1 = .ok (.invokespecial 1, 3) := by decide +kernel
theorem dX11_init_4 : decode cX11_init 4 = .ok (.aload_n 0, 1) := by decide +kernel
theorem dX11_init_5 : decode cX11_init 5 = .ok (.bipush 8, 2) := by decide +kernel
theorem dX11_init_7 : decode cX11_init 7 = .ok (.anewarray 9, 3) := by decide +kernel
theorem dX11_init_10 : decode cX11_init 10 = .ok (.putfield 11, 3) := by decide +kernel
theorem dX11_init_13 : decode cX11_init 13 = .ok (.aload_n 0, 1) := by decide +kernel
theorem dX11_init_14 : decode cX11_init 14 = .ok (.bipush 40, 2) := by decide +kernel
theorem dX11_init_16 : decode cX11_init 16 = .ok (.anewarray 15, 3) := by decide +kernel
theorem dX11_init_19 : decode cX11_init 19 = .ok (.putfield 17, 3) := by decide +kernel
theorem dX11_init_22 : decode cX11_init 22 = .ok (.aload_n 0, 1) := by decide +kernel
theorem dX11_init_23 : decode cX11_init 23 = .ok (.new 21, 3) := by decide +kernel
theorem dX11_init_26 : decode cX11_init 26 = .ok (.dup, 1) := by decide +kernel
theorem dX11_init_27 : decode cX11_init 27 = .ok (.invokespecial 23, 3) := by decide +kernel
theorem dX11_init_30 : decode cX11_init 30 = .ok (.putfield 24, 3) := by decide +kernel
theorem dX11_init_33 : decode cX11_init 33 = .ok (.aload_n 0, 1) := by decide +kernel
theorem dX11_init_34 : decode cX11_init 34 = .ok (.new 28, 3) := by decide +kernel
theorem dX11_init_37 : decode cX11_init 37 = .ok (.dup, 1) := by decide +kernel
theorem dX11_init_38 : decode cX11_init 38 = .ok (.invokespecial 30, 3) := by decide +kernel
theorem dX11_init_41 : decode cX11_init 41 = .ok (.putfield 31, 3) := by decide +kernel
theorem dX11_init_44 : decode cX11_init 44 = .ok (.aload_n 0, 1) := by decide +kernel
theorem dX11_init_45 : decode cX11_init 45 = .ok (.bipush 24, 2) := by decide +kernel
theorem dX11_init_47 : decode cX11_init 47 = .ok (.newarray .int, 2) := by decide +kernel
theorem dX11_init_49 : decode cX11_init 49 = .ok (.putfield 35, 3) := by decide +kernel
theorem dX11_init_52 : decode cX11_init 52 = .ok (.aload_n 0, 1) := by decide +kernel
theorem dX11_init_53 : decode cX11_init 53 = .ok (.bipush 25, 2) := by decide +kernel
theorem dX11_init_55 : decode cX11_init 55 = .ok (.newarray .long, 2) := by decide +kernel
theorem dX11_init_57 : decode cX11_init 57 = .ok (.putfield 39, 3) := by decide +kernel
theorem dX11_init_60 : decode cX11_init 60 = .ok (.aload_n 0, 1) := by decide +kernel
theorem dX11_init_61 : decode cX11_init 61 = .ok (.iconst (-1), 1) := by decide +kernel
theorem dX11_init_62 : decode cX11_init 62 = .ok (.putfield 43, 3) := by decide +kernel
theorem dX11_init_65 : decode cX11_init 65 = .ok (.return_, 1) := by decide +kernel
theorem dX11_house_0 : decode cX11_house 0 = .ok (.iload_n 1, 1) := by decide +kernel
theorem dX11_house_1 : decode cX11_house 1 = .ok (.ifCond .lt 10, 3) := by decide +kernel
theorem dX11_house_4 : decode cX11_house 4 = .ok (.iload_n 1, 1) := by decide +kernel
theorem dX11_house_5 : decode cX11_house 5 = .ok (.sipush 900, 3) := by decide +kernel
theorem dX11_house_8 : decode cX11_house 8 = .ok (.if_icmp .le 9, 3) := by decide +kernel
theorem dX11_house_11 : decode cX11_house 11 = .ok (.aload_n 0, 1) := by decide +kernel
theorem dX11_house_12 : decode cX11_house 12 = .ok (.iconst 2, 1) := by decide +kernel
theorem dX11_house_13 : decode cX11_house 13 = .ok (.invokevirtual 47, 3) := by decide +kernel
theorem dX11_house_16 : decode cX11_house 16 = .ok (.ireturn, 1) := by decide +kernel
theorem dX11_house_17 : decode cX11_house 17 = .ok (.aload_n 0, 1) := by decide +kernel
theorem dX11_house_18 : decode cX11_house 18 = .ok (.getfield 51, 3) := by decide +kernel
theorem dX11_house_21 : decode cX11_house 21 = .ok (.bipush 8, 2) := by decide +kernel
theorem dX11_house_23 : decode cX11_house 23 = .ok (.if_icmp .lt 10, 3) := by decide +kernel
theorem dX11_house_33 : decode cX11_house 33 = .ok (.aload_n 0, 1) := by decide +kernel
theorem dX11_house_34 : decode cX11_house 34 = .ok (.getfield 11, 3) := by decide +kernel
theorem dX11_house_37 : decode cX11_house 37 = .ok (.aload_n 0, 1) := by decide +kernel
theorem dX11_house_38 : decode cX11_house 38 = .ok (.getfield 51, 3) := by decide +kernel
theorem dX11_house_41 : decode cX11_house 41 = .ok (.new 9, 3) := by decide +kernel
theorem dX11_house_44 : decode cX11_house 44 = .ok (.dup, 1) := by decide +kernel
theorem dX11_house_45 : decode cX11_house 45 = .ok (.aload_n 0, 1) := by decide +kernel
theorem dX11_house_46 : decode cX11_house 46 = .ok (.getfield 51, 3) := by decide +kernel
theorem dX11_house_49 : decode cX11_house 49 = .ok (.iload_n 1, 1) := by decide +kernel
theorem dX11_house_50 : decode cX11_house 50 = .ok (.aload_n 0, 1) := by decide +kernel
theorem dX11_house_51 : decode cX11_house 51 = .ok (.getfield 24, 3) := by decide +kernel
theorem dX11_house_54 : decode cX11_house 54 = .ok (.invokespecial 54, 3) := by decide +kernel
theorem dX11_house_57 : decode cX11_house 57 = .ok (.aastore, 1) := by decide +kernel
theorem dX11_house_58 : decode cX11_house 58 = .ok (.aload_n 0, 1) := by decide +kernel
theorem dX11_house_59 : decode cX11_house 59 = .ok (.dup, 1) := by decide +kernel
theorem dX11_house_60 : decode cX11_house 60 = .ok (.getfield 51, 3) := by decide +kernel
theorem dX11_house_63 : decode cX11_house 63 = .ok (.iconst 1, 1) := by decide +kernel
theorem dX11_house_64 : decode cX11_house 64 = .ok (.iadd, 1) := by decide +kernel
theorem dX11_house_65 : decode cX11_house 65 = .ok (.putfield 51, 3) := by decide +kernel
theorem dX11_house_68 : decode cX11_house 68 = .ok (.aload_n 0, 1) := by decide +kernel
theorem dX11_house_69 : decode cX11_house 69 = .ok (.aload_n 0, 1) := by decide +kernel
theorem dX11_house_70 : decode cX11_house 70 = .ok (.getfield 51, 3) := by decide +kernel
theorem dX11_house_73 : decode cX11_house 73 = .ok (.iconst 1, 1) := by decide +kernel
theorem dX11_house_74 : decode cX11_house 74 = .ok (.isub, 1) := by decide +kernel
theorem dX11_house_75 : decode cX11_house 75 = .ok (.invokevirtual 57, 3) := by decide +kernel
theorem dX11_house_78 : decode cX11_house 78 = .ok (.ireturn, 1) := by decide +kernel
theorem dX11_partner_0 : decode cX11_partner 0 = .ok (.iload_n 1, 1) := by decide +kernel
theorem dX11_partner_1 : decode cX11_partner 1 = .ok (.ifCond .lt 9, 3) := by decide +kernel
theorem dX11_partner_4 : decode cX11_partner 4 = .ok (.iload_n 1, 1) := by decide +kernel
theorem dX11_partner_5 : decode cX11_partner 5 = .ok (.bipush 6, 2) := by decide +kernel
theorem dX11_partner_7 : decode cX11_partner 7 = .ok (.if_icmp .lt 9, 3) := by decide +kernel
theorem dX11_partner_10 : decode cX11_partner 10 = .ok (.aload_n 0, 1) := by decide +kernel
theorem dX11_partner_11 : decode cX11_partner 11 = .ok (.iconst 2, 1) := by decide +kernel
theorem dX11_partner_12 : decode cX11_partner 12 = .ok (.invokevirtual 47, 3) := by decide +kernel
theorem dX11_partner_15 : decode cX11_partner 15 = .ok (.ireturn, 1) := by decide +kernel
theorem dX11_partner_16 : decode cX11_partner 16 = .ok (.iload_n 1, 1) := by decide +kernel
theorem dX11_partner_17 : decode cX11_partner 17 = .ok (.invokestatic 60, 3) := by decide +kernel
theorem dX11_partner_20 : decode cX11_partner 20 = .ok (.ifCond .eq 19, 3) := by decide +kernel
theorem dX11_partner_23 : decode cX11_partner 23 = .ok (.iload_n 2, 1) := by decide +kernel
theorem dX11_partner_24 : decode cX11_partner 24 = .ok (.ifCond .lt 9, 3) := by decide +kernel
theorem dX11_partner_27 : decode cX11_partner 27 = .ok (.iload_n 2, 1) := by decide +kernel
theorem dX11_partner_28 : decode cX11_partner 28 = .ok (.ldc 64, 2) := by decide +kernel
theorem dX11_partner_30 : decode cX11_partner 30 = .ok (.if_icmp .le 9, 3) := by decide +kernel
theorem dX11_partner_33 : decode cX11_partner 33 = .ok (.aload_n 0, 1) := by decide +kernel
theorem dX11_partner_34 : decode cX11_partner 34 = .ok (.iconst 2, 1) := by decide +kernel
theorem dX11_partner_35 : decode cX11_partner 35 = .ok (.invokevirtual 47, 3) := by decide +kernel
theorem dX11_partner_38 : decode cX11_partner 38 = .ok (.ireturn, 1) := by decide +kernel
theorem dX11_partner_39 : decode cX11_partner 39 = .ok (.iload_n 1, 1) := by decide +kernel
theorem dX11_partner_40 : decode cX11_partner 40 = .ok (.iconst 5, 1) := by decide +kernel
theorem dX11_partner_41 : decode cX11_partner 41 = .ok (.if_icmp .ne 11, 3) := by decide +kernel
theorem dX11_partner_44 : decode cX11_partner 44 = .ok (.aload_n 0, 1) := by decide +kernel
theorem dX11_partner_45 : decode cX11_partner 45 = .ok (.iload_n 2, 1) := by decide +kernel
theorem dX11_partner_46 : decode cX11_partner 46 = .ok (.invokevirtual 65, 3) := by decide +kernel
theorem dX11_partner_49 : decode cX11_partner 49 = .ok (.goto 4, 3) := by decide +kernel
theorem dX11_partner_52 : decode cX11_partner 52 = .ok (.aconst_null, 1) := by decide +kernel
theorem dX11_partner_53 : decode cX11_partner 53 = .ok (.astore_n 3, 1) := by decide +kernel
theorem dX11_partner_54 : decode cX11_partner 54 = .ok (.iload_n 1, 1) := by decide +kernel
theorem dX11_partner_55 : decode cX11_partner 55 = .ok (.iconst 5, 1) := by decide +kernel
theorem dX11_partner_56 : decode cX11_partner 56 = .ok (.if_icmp .ne 13, 3) := by decide +kernel
theorem dX11_partner_59 : decode cX11_partner 59 = .ok (.aload_n 3, 1) := by decide +kernel
theorem dX11_partner_60 : decode cX11_partner 60 = .ok (.ifnonnull 9, 3) := by decide +kernel
theorem dX11_partner_63 : decode cX11_partner 63 = .ok (.aload_n 0, 1) := by decide +kernel
theorem dX11_partner_64 : decode cX11_partner 64 = .ok (.iconst 1, 1) := by decide +kernel
theorem dX11_partner_65 : decode cX11_partner 65 = .ok (.invokevirtual 47, 3) := by decide +kernel
theorem dX11_partner_68 : decode cX11_partner 68 = .ok (.ireturn, 1) := by decide +kernel
theorem dX11_partner_69 : decode cX11_partner 69 = .ok (.aload_n 0, 1) := by decide +kernel
theorem dX11_partner_70 : decode cX11_partner 70 = .ok (.getfield 69, 3) := by decide +kernel
theorem dX11_partner_73 : decode cX11_partner 73 = .ok (.bipush 40, 2) := by decide +kernel
theorem dX11_partner_75 : decode cX11_partner 75 = .ok (.if_icmp .lt 10, 3) := by decide +kernel
theorem dX11_partner_85 : decode cX11_partner 85 = .ok (.aload_n 0, 1) := by decide +kernel
theorem dX11_partner_86 : decode cX11_partner 86 = .ok (.getfield 17, 3) := by decide +kernel
theorem dX11_partner_89 : decode cX11_partner 89 = .ok (.aload_n 0, 1) := by decide +kernel
theorem dX11_partner_90 : decode cX11_partner 90 = .ok (.getfield 69, 3) := by decide +kernel
theorem dX11_partner_93 : decode cX11_partner 93 = .ok (.new 15, 3) := by decide +kernel
theorem dX11_partner_96 : decode cX11_partner 96 = .ok (.dup, 1) := by decide +kernel
theorem dX11_partner_97 : decode cX11_partner 97 = .ok (.aload_n 0, 1) := by decide +kernel
theorem dX11_partner_98 : decode cX11_partner 98 = .ok (.getfield 69, 3) := by decide +kernel
theorem dX11_partner_101 : decode cX11_partner 101 = .ok (.iload_n 1, 1) := by decide +kernel
theorem dX11_partner_102 : decode cX11_partner 102 = .ok (.iload_n 2, 1) := by decide +kernel
theorem dX11_partner_103 : decode cX11_partner 103 = .ok (.aload_n 3, 1) := by decide +kernel
theorem dX11_partner_104 : decode cX11_partner 104 = .ok (.invokespecial 72, 3) := by decide +kernel
theorem dX11_partner_107 : decode cX11_partner 107 = .ok (.aastore, 1) := by decide +kernel
theorem dX11_partner_108 : decode cX11_partner 108 = .ok (.aload_n 0, 1) := by decide +kernel
theorem dX11_partner_109 : decode cX11_partner 109 = .ok (.dup, 1) := by decide +kernel
theorem dX11_partner_110 : decode cX11_partner 110 = .ok (.getfield 69, 3) := by decide +kernel
theorem dX11_partner_113 : decode cX11_partner 113 = .ok (.iconst 1, 1) := by decide +kernel
theorem dX11_partner_114 : decode cX11_partner 114 = .ok (.iadd, 1) := by decide +kernel
theorem dX11_partner_115 : decode cX11_partner 115 = .ok (.putfield 69, 3) := by decide +kernel
theorem dX11_partner_118 : decode cX11_partner 118 = .ok (.aload_n 0, 1) := by decide +kernel
theorem dX11_partner_119 : decode cX11_partner 119 = .ok (.aload_n 0, 1) := by decide +kernel
theorem dX11_partner_120 : decode cX11_partner 120 = .ok (.getfield 69, 3) := by decide +kernel
theorem dX11_partner_123 : decode cX11_partner 123 = .ok (.iconst 1, 1) := by decide +kernel
theorem dX11_partner_124 : decode cX11_partner 124 = .ok (.isub, 1) := by decide +kernel
theorem dX11_partner_125 : decode cX11_partner 125 = .ok (.invokevirtual 57, 3) := by decide +kernel
theorem dX11_partner_128 : decode cX11_partner 128 = .ok (.ireturn, 1) := by decide +kernel
set_option maxHeartbeats 4000000 in
set_option maxRecDepth 100000 in
theorem k_Shares_init (l : Launch) (D : va_G) (sz : Nat) (oa : Nat) : Met l yX7_init (wsM yX7_init cX7_init 1 none) ({ frames := 1, cells := 5, slots := 500, locals := 12 }) (va_Pc [.ref oa] (Pr D [(oa, .inr (7, [.null, .null, .null, .null, .null, .int 0]))] [] sz)) (va_Qv (fun _ : Unit => True) (fun _ _ => True) (va_A [(oa, .inr (7, [.null, .null, .null, .null, .null, .int 0]))] sz)) 5 500 (va_A [(oa, .inr (7, [.null, .null, .null, .null, .null, .int 0]))] sz) := by
  refine Met.ofW (cc := cX7_init) (maxL := 1) (ret := none) (by decide) rfl ?_
  intro p e s m args below meth c s₁ B hml hv
  obtain ⟨rfl, hsz, hP, hK, hD0, hN⟩ := hv
  have hx := B.exec
  have hb := B.bytes
  have hr := B.returns
  have hts := atoms_spec (ws := (wsM yX7_init cX7_init 1 none)) B.pre
  have hg : ∀ w ∈ lw_good, w.before _ s = true := fun w h => hts w (List.mem_cons_of_mem _ h)
  have hown : s.vm.findClass RX7 = some m.cls := findClass_of_methodNamed B.named
  have hlocks := B.notSynchronized
  have hin : meth.name = "<init>" := (name_of_methodNamed B.named B.method).1
  subst hsz
  have hD := hD0.self (sz := s.heap.size)
  generalize hAe : va_A [(oa, .inr (7, [.null, .null, .null, .null, .null, .int 0]))] s.heap.size = A at hD ⊢
  have hA : ∀ q : Nat, s.heap.size ≤ q → A q := fun q h => by rw [← hAe]; exact Or.inr h
  have hS : va_S A s.heap s.heap [] := va_S.rf
  have hP : va_P D vwCl [(oa, .inr (7, [.null, .null, .null, .null, .null, .int 0]))] s.heap := hP
  have hl := lv_entry ([.ref oa]) (n := 1) (Nat.le_of_ble_eq_true rfl)
  rw [lg_entry_eq]
  generalize (lg_sl ([.ref oa]) ++ List.replicate (1 - (lg_sl ([.ref oa])).length) Slot.unset).toArray = ls at hl ⊢
  have hl : lv_has ls 1 [(0, .ref oa)] := hl
  refine lv_aload_n hx hb dX7_init_0 rfl (lv_at hl 0 rfl) ?_
  refine W.objInit hx hb hown (hg _ wd_43) (hg _ wd_44) (hg _ wd_obj) rfl (by rw [hml]; exact hl.1) rfl dX7_init_1 (Nat.le_of_ble_eq_true rfl) (Nat.le_of_ble_eq_true rfl) ?_
  refine W.eq (g2 := F0 m 4 ls []) rfl ?_
  refine lv_aload_n hx hb dX7_init_4 rfl (lv_at hl 0 rfl) ?_
  refine lv_bipush (v := 100) hx hb dX7_init_5 (by decide) ?_
  refine va_newq (C := RX9) (N' := 100) hx hb hown (hg _ wd_45) (hN.ao RX9 62 rfl) hK hP hD hS hA (by decide) (by decide) (Nat.le_of_ble_eq_true rfl) (Nat.le_of_ble_eq_true rfl) (Nat.le_of_ble_eq_true rfl) dX7_init_7 (fun q_1 cA_3 H_2 hK hP hD hS => ?_)
  have hK : va_K D vwCl [(cA_3, .object RX9)] s := hK
  have hP : va_P D vwCl [(oa, .inr (7, [.null, .null, .null, .null, .null, .int 0])), (q_1, .inl (cA_3, 100, .inr (.inr (.inr (.inr (fun _ => none))))))] H_2 := hP
  have hD : va_D A [(oa, .inr (7, [.null, .null, .null, .null, .null, .int 0])), (q_1, .inl (cA_3, 100, .inr (.inr (.inr (.inr (fun _ => none))))))] := hD
  refine W.widen (k := 1) (n := 100) (Nat.le_of_ble_eq_true rfl) (Nat.le_of_ble_eq_true rfl) ?_
  refine va_putF (D := D) (ci := 7) (v := .ref q_1) (ty := .array (.object "PartnersBook$Tenure")) (C := RX7) (T := TX7) (N := 6) hx hb hg inG7 tyX7 tyX7_ok nmX7 hown hK hP hD hS 0 rfl rfl 0 (by decide) (hg _ wd_46) (fun _ h9 => h9) rfl hin rfl (by decide +kernel) rfl rfl (Nat.le_of_ble_eq_true rfl) dX7_init_10 (fun H_4 locs hP hD hS => ?_)
  have hP : va_P D vwCl [(oa, .inr (7, [.ref q_1, .null, .null, .null, .null, .int 0])), (q_1, .inl (cA_3, 100, .inr (.inr (.inr (.inr (fun _ => none))))))] H_4 := hP
  have hD : va_D A [(oa, .inr (7, [.ref q_1, .null, .null, .null, .null, .int 0])), (q_1, .inl (cA_3, 100, .inr (.inr (.inr (.inr (fun _ => none))))))] := hD
  have hP := hP.sub (ws' := [(oa, .inr (7, [.ref q_1, .null, .null, .null, .null, .int 0]))]) [0] rfl
  have hD := hD.sub (ws' := [(oa, .inr (7, [.ref q_1, .null, .null, .null, .null, .int 0]))]) [0] (by decide) rfl
  refine lv_aload_n hx hb dX7_init_13 rfl (lv_at hl 0 rfl) ?_
  refine lv_bipush (v := 100) hx hb dX7_init_14 (by decide) ?_
  refine va_newa (atype := .long) (ty := .long) (a0 := (100, .inr (.inl (fun _ => 0)))) hx hb (hg _ wd_47) rfl hK hP hD hS hA (fun cA => rfl) (by decide) (by decide) (Nat.le_of_ble_eq_true rfl) (Nat.le_of_ble_eq_true rfl) (Nat.le_of_ble_eq_true rfl) dX7_init_16 (fun q_5 cA_7 H_6 hK hP hD hS => ?_)
  have hK : va_K D vwCl [(cA_3, .object RX9), (cA_7, .long)] s := hK
  have hP : va_P D vwCl [(oa, .inr (7, [.ref q_1, .null, .null, .null, .null, .int 0])), (q_5, .inl (cA_7, 100, .inr (.inl (fun _ => 0))))] H_6 := hP
  have hD : va_D A [(oa, .inr (7, [.ref q_1, .null, .null, .null, .null, .int 0])), (q_5, .inl (cA_7, 100, .inr (.inl (fun _ => 0))))] := hD
  refine W.widen (k := 2) (n := 200) (Nat.le_of_ble_eq_true rfl) (Nat.le_of_ble_eq_true rfl) ?_
  refine va_putF (D := D) (ci := 7) (v := .ref q_5) (ty := .array .long) (C := RX7) (T := TX7) (N := 6) hx hb hg inG7 tyX7 tyX7_ok nmX7 hown hK hP hD hS 0 rfl rfl 1 (by decide) (hg _ wd_48) (fun _ h9 => h9) rfl hin rfl (by decide +kernel) rfl rfl (Nat.le_of_ble_eq_true rfl) dX7_init_18 (fun H_8 locs hP hD hS => ?_)
  have hP : va_P D vwCl [(oa, .inr (7, [.ref q_1, .ref q_5, .null, .null, .null, .int 0])), (q_5, .inl (cA_7, 100, .inr (.inl (fun _ => 0))))] H_8 := hP
  have hD : va_D A [(oa, .inr (7, [.ref q_1, .ref q_5, .null, .null, .null, .int 0])), (q_5, .inl (cA_7, 100, .inr (.inl (fun _ => 0))))] := hD
  have hP := hP.sub (ws' := [(oa, .inr (7, [.ref q_1, .ref q_5, .null, .null, .null, .int 0]))]) [0] rfl
  have hD := hD.sub (ws' := [(oa, .inr (7, [.ref q_1, .ref q_5, .null, .null, .null, .int 0]))]) [0] (by decide) rfl
  refine lv_aload_n hx hb dX7_init_21 rfl (lv_at hl 0 rfl) ?_
  refine lv_bipush (v := 100) hx hb dX7_init_22 (by decide) ?_
  refine va_newa (atype := .long) (ty := .long) (a0 := (100, .inr (.inl (fun _ => 0)))) hx hb (hg _ wd_47) rfl hK hP hD hS hA (fun cA => rfl) (by decide) (by decide) (Nat.le_of_ble_eq_true rfl) (Nat.le_of_ble_eq_true rfl) (Nat.le_of_ble_eq_true rfl) dX7_init_24 (fun q_9 cA_11 H_10 hK hP hD hS => ?_)
  have hK : va_K D vwCl [(cA_3, .object RX9), (cA_7, .long), (cA_11, .long)] s := hK
  have hP : va_P D vwCl [(oa, .inr (7, [.ref q_1, .ref q_5, .null, .null, .null, .int 0])), (q_9, .inl (cA_11, 100, .inr (.inl (fun _ => 0))))] H_10 := hP
  have hD : va_D A [(oa, .inr (7, [.ref q_1, .ref q_5, .null, .null, .null, .int 0])), (q_9, .inl (cA_11, 100, .inr (.inl (fun _ => 0))))] := hD
  refine W.widen (k := 3) (n := 300) (Nat.le_of_ble_eq_true rfl) (Nat.le_of_ble_eq_true rfl) ?_
  refine va_putF (D := D) (ci := 7) (v := .ref q_9) (ty := .array .long) (C := RX7) (T := TX7) (N := 6) hx hb hg inG7 tyX7 tyX7_ok nmX7 hown hK hP hD hS 0 rfl rfl 2 (by decide) (hg _ wd_49) (fun _ h9 => h9) rfl hin rfl (by decide +kernel) rfl rfl (Nat.le_of_ble_eq_true rfl) dX7_init_26 (fun H_12 locs hP hD hS => ?_)
  have hP : va_P D vwCl [(oa, .inr (7, [.ref q_1, .ref q_5, .ref q_9, .null, .null, .int 0])), (q_9, .inl (cA_11, 100, .inr (.inl (fun _ => 0))))] H_12 := hP
  have hD : va_D A [(oa, .inr (7, [.ref q_1, .ref q_5, .ref q_9, .null, .null, .int 0])), (q_9, .inl (cA_11, 100, .inr (.inl (fun _ => 0))))] := hD
  have hP := hP.sub (ws' := [(oa, .inr (7, [.ref q_1, .ref q_5, .ref q_9, .null, .null, .int 0]))]) [0] rfl
  have hD := hD.sub (ws' := [(oa, .inr (7, [.ref q_1, .ref q_5, .ref q_9, .null, .null, .int 0]))]) [0] (by decide) rfl
  refine lv_aload_n hx hb dX7_init_29 rfl (lv_at hl 0 rfl) ?_
  refine lv_bipush (v := 100) hx hb dX7_init_30 (by decide) ?_
  refine va_newa (atype := .long) (ty := .long) (a0 := (100, .inr (.inl (fun _ => 0)))) hx hb (hg _ wd_47) rfl hK hP hD hS hA (fun cA => rfl) (by decide) (by decide) (Nat.le_of_ble_eq_true rfl) (Nat.le_of_ble_eq_true rfl) (Nat.le_of_ble_eq_true rfl) dX7_init_32 (fun q_13 cA_15 H_14 hK hP hD hS => ?_)
  have hK : va_K D vwCl [(cA_3, .object RX9), (cA_7, .long), (cA_11, .long), (cA_15, .long)] s := hK
  have hP : va_P D vwCl [(oa, .inr (7, [.ref q_1, .ref q_5, .ref q_9, .null, .null, .int 0])), (q_13, .inl (cA_15, 100, .inr (.inl (fun _ => 0))))] H_14 := hP
  have hD : va_D A [(oa, .inr (7, [.ref q_1, .ref q_5, .ref q_9, .null, .null, .int 0])), (q_13, .inl (cA_15, 100, .inr (.inl (fun _ => 0))))] := hD
  refine W.widen (k := 4) (n := 400) (Nat.le_of_ble_eq_true rfl) (Nat.le_of_ble_eq_true rfl) ?_
  refine va_putF (D := D) (ci := 7) (v := .ref q_13) (ty := .array .long) (C := RX7) (T := TX7) (N := 6) hx hb hg inG7 tyX7 tyX7_ok nmX7 hown hK hP hD hS 0 rfl rfl 3 (by decide) (hg _ wd_50) (fun _ h9 => h9) rfl hin rfl (by decide +kernel) rfl rfl (Nat.le_of_ble_eq_true rfl) dX7_init_34 (fun H_16 locs hP hD hS => ?_)
  have hP : va_P D vwCl [(oa, .inr (7, [.ref q_1, .ref q_5, .ref q_9, .ref q_13, .null, .int 0])), (q_13, .inl (cA_15, 100, .inr (.inl (fun _ => 0))))] H_16 := hP
  have hD : va_D A [(oa, .inr (7, [.ref q_1, .ref q_5, .ref q_9, .ref q_13, .null, .int 0])), (q_13, .inl (cA_15, 100, .inr (.inl (fun _ => 0))))] := hD
  have hP := hP.sub (ws' := [(oa, .inr (7, [.ref q_1, .ref q_5, .ref q_9, .ref q_13, .null, .int 0]))]) [0] rfl
  have hD := hD.sub (ws' := [(oa, .inr (7, [.ref q_1, .ref q_5, .ref q_9, .ref q_13, .null, .int 0]))]) [0] (by decide) rfl
  refine lv_aload_n hx hb dX7_init_37 rfl (lv_at hl 0 rfl) ?_
  refine lv_bipush (v := 100) hx hb dX7_init_38 (by decide) ?_
  refine va_newa (atype := .long) (ty := .long) (a0 := (100, .inr (.inl (fun _ => 0)))) hx hb (hg _ wd_47) rfl hK hP hD hS hA (fun cA => rfl) (by decide) (by decide) (Nat.le_of_ble_eq_true rfl) (Nat.le_of_ble_eq_true rfl) (Nat.le_of_ble_eq_true rfl) dX7_init_40 (fun q_17 cA_19 H_18 hK hP hD hS => ?_)
  have hK : va_K D vwCl [(cA_3, .object RX9), (cA_7, .long), (cA_11, .long), (cA_15, .long), (cA_19, .long)] s := hK
  have hP : va_P D vwCl [(oa, .inr (7, [.ref q_1, .ref q_5, .ref q_9, .ref q_13, .null, .int 0])), (q_17, .inl (cA_19, 100, .inr (.inl (fun _ => 0))))] H_18 := hP
  have hD : va_D A [(oa, .inr (7, [.ref q_1, .ref q_5, .ref q_9, .ref q_13, .null, .int 0])), (q_17, .inl (cA_19, 100, .inr (.inl (fun _ => 0))))] := hD
  refine W.widen (k := 5) (n := 500) (Nat.le_of_ble_eq_true rfl) (Nat.le_of_ble_eq_true rfl) ?_
  refine va_putF (D := D) (ci := 7) (v := .ref q_17) (ty := .array .long) (C := RX7) (T := TX7) (N := 6) hx hb hg inG7 tyX7 tyX7_ok nmX7 hown hK hP hD hS 0 rfl rfl 4 (by decide) (hg _ wd_51) (fun _ h9 => h9) rfl hin rfl (by decide +kernel) rfl rfl (Nat.le_of_ble_eq_true rfl) dX7_init_42 (fun H_20 locs hP hD hS => ?_)
  have hP : va_P D vwCl [(oa, .inr (7, [.ref q_1, .ref q_5, .ref q_9, .ref q_13, .ref q_17, .int 0])), (q_17, .inl (cA_19, 100, .inr (.inl (fun _ => 0))))] H_20 := hP
  have hD : va_D A [(oa, .inr (7, [.ref q_1, .ref q_5, .ref q_9, .ref q_13, .ref q_17, .int 0])), (q_17, .inl (cA_19, 100, .inr (.inl (fun _ => 0))))] := hD
  have hP := hP.sub (ws' := [(oa, .inr (7, [.ref q_1, .ref q_5, .ref q_9, .ref q_13, .ref q_17, .int 0]))]) [0] rfl
  have hD := hD.sub (ws' := [(oa, .inr (7, [.ref q_1, .ref q_5, .ref q_9, .ref q_13, .ref q_17, .int 0]))]) [0] (by decide) rfl
  exact W.vret hx hb hr (fun t ht hW => ⟨⟨(), rfl, trivial, trivial⟩, hS.F ht⟩) hS.2.2 dX7_init_45
set_option maxHeartbeats 4000000 in
set_option maxRecDepth 100000 in
theorem k_UndoLog_init (l : Launch) (D : va_G) (sz : Nat) (oa : Nat) : Met l yX10_init (wsM yX10_init cX10_init 1 none) ({ frames := 1, cells := 1, slots := 60, locals := 12 }) (va_Pc [.ref oa] (Pr D [(oa, .inr (10, [.null, .int 0, .int 0]))] [] sz)) (va_Qv (fun _ : Unit => True) (fun _ _ => True) (va_A [(oa, .inr (10, [.null, .int 0, .int 0]))] sz)) 1 60 (va_A [(oa, .inr (10, [.null, .int 0, .int 0]))] sz) := by
  refine Met.ofW (cc := cX10_init) (maxL := 1) (ret := none) (by decide) rfl ?_
  intro p e s m args below meth c s₁ B hml hv
  obtain ⟨rfl, hsz, hP, hK, hD0, hN⟩ := hv
  have hx := B.exec
  have hb := B.bytes
  have hr := B.returns
  have hts := atoms_spec (ws := (wsM yX10_init cX10_init 1 none)) B.pre
  have hg : ∀ w ∈ lw_good, w.before _ s = true := fun w h => hts w (List.mem_cons_of_mem _ h)
  have hown : s.vm.findClass RX10 = some m.cls := findClass_of_methodNamed B.named
  have hlocks := B.notSynchronized
  have hin : meth.name = "<init>" := (name_of_methodNamed B.named B.method).1
  subst hsz
  have hD := hD0.self (sz := s.heap.size)
  generalize hAe : va_A [(oa, .inr (10, [.null, .int 0, .int 0]))] s.heap.size = A at hD ⊢
  have hA : ∀ q : Nat, s.heap.size ≤ q → A q := fun q h => by rw [← hAe]; exact Or.inr h
  have hS : va_S A s.heap s.heap [] := va_S.rf
  have hP : va_P D vwCl [(oa, .inr (10, [.null, .int 0, .int 0]))] s.heap := hP
  have hl := lv_entry ([.ref oa]) (n := 1) (Nat.le_of_ble_eq_true rfl)
  rw [lg_entry_eq]
  generalize (lg_sl ([.ref oa]) ++ List.replicate (1 - (lg_sl ([.ref oa])).length) Slot.unset).toArray = ls at hl ⊢
  have hl : lv_has ls 1 [(0, .ref oa)] := hl
  refine lv_aload_n hx hb dX10_init_0 rfl (lv_at hl 0 rfl) ?_
  refine W.objInit hx hb hown (hg _ wd_52) (hg _ wd_44) (hg _ wd_obj) rfl (by rw [hml]; exact hl.1) rfl dX10_init_1 (Nat.le_of_ble_eq_true rfl) (Nat.le_of_ble_eq_true rfl) ?_
  refine W.eq (g2 := F0 m 4 ls []) rfl ?_
  refine lv_aload_n hx hb dX10_init_4 rfl (lv_at hl 0 rfl) ?_
  refine lv_bipush (v := 60) hx hb dX10_init_5 (by decide) ?_
  refine va_newa (atype := .int) (ty := .int) (a0 := (60, .inl (fun _ => 0))) hx hb (hg _ wd_53) rfl hK hP hD hS hA (fun cA => rfl) (by decide) (by decide) (Nat.le_of_ble_eq_true rfl) (Nat.le_of_ble_eq_true rfl) (Nat.le_of_ble_eq_true rfl) dX10_init_7 (fun q_1 cA_3 H_2 hK hP hD hS => ?_)
  have hK : va_K D vwCl [(cA_3, .int)] s := hK
  have hP : va_P D vwCl [(oa, .inr (10, [.null, .int 0, .int 0])), (q_1, .inl (cA_3, 60, .inl (fun _ => 0)))] H_2 := hP
  have hD : va_D A [(oa, .inr (10, [.null, .int 0, .int 0])), (q_1, .inl (cA_3, 60, .inl (fun _ => 0)))] := hD
  refine W.widen (k := 1) (n := 60) (Nat.le_of_ble_eq_true rfl) (Nat.le_of_ble_eq_true rfl) ?_
  refine va_putF (D := D) (ci := 10) (v := .ref q_1) (ty := .array .int) (C := RX10) (T := TX10) (N := 3) hx hb hg inG10 tyX10 tyX10_ok nmX10 hown hK hP hD hS 0 rfl rfl 0 (by decide) (hg _ wd_54) (fun _ h9 => h9) rfl hin rfl (by decide +kernel) rfl rfl (Nat.le_of_ble_eq_true rfl) dX10_init_9 (fun H_4 locs hP hD hS => ?_)
  have hP : va_P D vwCl [(oa, .inr (10, [.ref q_1, .int 0, .int 0])), (q_1, .inl (cA_3, 60, .inl (fun _ => 0)))] H_4 := hP
  have hD : va_D A [(oa, .inr (10, [.ref q_1, .int 0, .int 0])), (q_1, .inl (cA_3, 60, .inl (fun _ => 0)))] := hD
  have hP := hP.sub (ws' := [(oa, .inr (10, [.ref q_1, .int 0, .int 0]))]) [0] rfl
  have hD := hD.sub (ws' := [(oa, .inr (10, [.ref q_1, .int 0, .int 0]))]) [0] (by decide) rfl
  exact W.vret hx hb hr (fun t ht hW => ⟨⟨(), rfl, trivial, trivial⟩, hS.F ht⟩) hS.2.2 dX10_init_12
set_option maxHeartbeats 4000000 in
set_option maxRecDepth 100000 in
theorem k_Closing_init (l : Launch) (D : va_G) (sz : Nat) (oa : Nat) (sa : Nat) : Met l yX0_init (wsM yX0_init cX0_init 2 none) ({ frames := 1, cells := 2, slots := 220, locals := 12 }) (va_Pc [.ref oa, .ref sa] (Pr D [(oa, .inr (0, [.null, .null, .null, .int 0, .long 0]))] [] sz)) (va_Qv (fun _ : Unit => True) (fun _ _ => True) (va_A [(oa, .inr (0, [.null, .null, .null, .int 0, .long 0]))] sz)) 2 220 (va_A [(oa, .inr (0, [.null, .null, .null, .int 0, .long 0]))] sz) := by
  refine Met.ofW (cc := cX0_init) (maxL := 2) (ret := none) (by decide) rfl ?_
  intro p e s m args below meth c s₁ B hml hv
  obtain ⟨rfl, hsz, hP, hK, hD0, hN⟩ := hv
  have hx := B.exec
  have hb := B.bytes
  have hr := B.returns
  have hts := atoms_spec (ws := (wsM yX0_init cX0_init 2 none)) B.pre
  have hg : ∀ w ∈ lw_good, w.before _ s = true := fun w h => hts w (List.mem_cons_of_mem _ h)
  have hown : s.vm.findClass RX0 = some m.cls := findClass_of_methodNamed B.named
  have hlocks := B.notSynchronized
  have hin : meth.name = "<init>" := (name_of_methodNamed B.named B.method).1
  subst hsz
  have hD := hD0.self (sz := s.heap.size)
  generalize hAe : va_A [(oa, .inr (0, [.null, .null, .null, .int 0, .long 0]))] s.heap.size = A at hD ⊢
  have hA : ∀ q : Nat, s.heap.size ≤ q → A q := fun q h => by rw [← hAe]; exact Or.inr h
  have hS : va_S A s.heap s.heap [] := va_S.rf
  have hP : va_P D vwCl [(oa, .inr (0, [.null, .null, .null, .int 0, .long 0]))] s.heap := hP
  have hl := lv_entry ([.ref oa, .ref sa]) (n := 2) (Nat.le_of_ble_eq_true rfl)
  rw [lg_entry_eq]
  generalize (lg_sl ([.ref oa, .ref sa]) ++ List.replicate (2 - (lg_sl ([.ref oa, .ref sa])).length) Slot.unset).toArray = ls at hl ⊢
  have hl : lv_has ls 2 [(0, .ref oa), (1, .ref sa)] := hl
  refine lv_aload_n hx hb dX0_init_0 rfl (lv_at hl 0 rfl) ?_
  refine W.objInit hx hb hown (hg _ wd_55) (hg _ wd_44) (hg _ wd_obj) rfl (by rw [hml]; exact hl.1) rfl dX0_init_1 (Nat.le_of_ble_eq_true rfl) (Nat.le_of_ble_eq_true rfl) ?_
  refine W.eq (g2 := F0 m 4 ls []) rfl ?_
  refine lv_aload_n hx hb dX0_init_4 rfl (lv_at hl 0 rfl) ?_
  refine lv_bipush (v := 120) hx hb dX0_init_5 (by decide) ?_
  refine va_newq (C := RX8) (N' := 120) hx hb hown (hg _ wd_56) (hN.ao RX8 65 rfl) hK hP hD hS hA (by decide) (by decide) (Nat.le_of_ble_eq_true rfl) (Nat.le_of_ble_eq_true rfl) (Nat.le_of_ble_eq_true rfl) dX0_init_7 (fun q_1 cA_3 H_2 hK hP hD hS => ?_)
  have hK : va_K D vwCl [(cA_3, .object RX8)] s := hK
  have hP : va_P D vwCl [(oa, .inr (0, [.null, .null, .null, .int 0, .long 0])), (q_1, .inl (cA_3, 120, .inr (.inr (.inr (.inr (fun _ => none))))))] H_2 := hP
  have hD : va_D A [(oa, .inr (0, [.null, .null, .null, .int 0, .long 0])), (q_1, .inl (cA_3, 120, .inr (.inr (.inr (.inr (fun _ => none))))))] := hD
  refine W.widen (k := 1) (n := 120) (Nat.le_of_ble_eq_true rfl) (Nat.le_of_ble_eq_true rfl) ?_
  refine va_putF (D := D) (ci := 0) (v := .ref q_1) (ty := .array (.object "PartnersBook$Stretch")) (C := RX0) (T := TX0) (N := 5) hx hb hg inG0 tyX0 tyX0_ok nmX0 hown hK hP hD hS 0 rfl rfl 0 (by decide) (hg _ wd_57) (fun _ h9 => h9) rfl hin rfl (by decide +kernel) rfl rfl (Nat.le_of_ble_eq_true rfl) dX0_init_10 (fun H_4 locs hP hD hS => ?_)
  have hP : va_P D vwCl [(oa, .inr (0, [.ref q_1, .null, .null, .int 0, .long 0])), (q_1, .inl (cA_3, 120, .inr (.inr (.inr (.inr (fun _ => none))))))] H_4 := hP
  have hD : va_D A [(oa, .inr (0, [.ref q_1, .null, .null, .int 0, .long 0])), (q_1, .inl (cA_3, 120, .inr (.inr (.inr (.inr (fun _ => none))))))] := hD
  have hP := hP.sub (ws' := [(oa, .inr (0, [.ref q_1, .null, .null, .int 0, .long 0]))]) [0] rfl
  have hD := hD.sub (ws' := [(oa, .inr (0, [.ref q_1, .null, .null, .int 0, .long 0]))]) [0] (by decide) rfl
  refine lv_aload_n hx hb dX0_init_13 rfl (lv_at hl 0 rfl) ?_
  refine lv_bipush (v := 100) hx hb dX0_init_14 (by decide) ?_
  refine va_newa (atype := .long) (ty := .long) (a0 := (100, .inr (.inl (fun _ => 0)))) hx hb (hg _ wd_47) rfl hK hP hD hS hA (fun cA => rfl) (by decide) (by decide) (Nat.le_of_ble_eq_true rfl) (Nat.le_of_ble_eq_true rfl) (Nat.le_of_ble_eq_true rfl) dX0_init_16 (fun q_5 cA_7 H_6 hK hP hD hS => ?_)
  have hK : va_K D vwCl [(cA_3, .object RX8), (cA_7, .long)] s := hK
  have hP : va_P D vwCl [(oa, .inr (0, [.ref q_1, .null, .null, .int 0, .long 0])), (q_5, .inl (cA_7, 100, .inr (.inl (fun _ => 0))))] H_6 := hP
  have hD : va_D A [(oa, .inr (0, [.ref q_1, .null, .null, .int 0, .long 0])), (q_5, .inl (cA_7, 100, .inr (.inl (fun _ => 0))))] := hD
  refine W.widen (k := 2) (n := 220) (Nat.le_of_ble_eq_true rfl) (Nat.le_of_ble_eq_true rfl) ?_
  refine va_putF (D := D) (ci := 0) (v := .ref q_5) (ty := .array .long) (C := RX0) (T := TX0) (N := 5) hx hb hg inG0 tyX0 tyX0_ok nmX0 hown hK hP hD hS 0 rfl rfl 1 (by decide) (hg _ wd_58) (fun _ h9 => h9) rfl hin rfl (by decide +kernel) rfl rfl (Nat.le_of_ble_eq_true rfl) dX0_init_18 (fun H_8 locs hP hD hS => ?_)
  have hP : va_P D vwCl [(oa, .inr (0, [.ref q_1, .ref q_5, .null, .int 0, .long 0])), (q_5, .inl (cA_7, 100, .inr (.inl (fun _ => 0))))] H_8 := hP
  have hD : va_D A [(oa, .inr (0, [.ref q_1, .ref q_5, .null, .int 0, .long 0])), (q_5, .inl (cA_7, 100, .inr (.inl (fun _ => 0))))] := hD
  have hP := hP.sub (ws' := [(oa, .inr (0, [.ref q_1, .ref q_5, .null, .int 0, .long 0]))]) [0] rfl
  have hD := hD.sub (ws' := [(oa, .inr (0, [.ref q_1, .ref q_5, .null, .int 0, .long 0]))]) [0] (by decide) rfl
  refine lv_aload_n hx hb dX0_init_21 rfl (lv_at hl 0 rfl) ?_
  refine lv_aload_n hx hb dX0_init_22 rfl (lv_at hl 1 rfl) ?_
  refine va_putF (D := D) (ci := 0) (v := .ref sa) (ty := .object "PartnersBook$Shares") (C := RX0) (T := TX0) (N := 5) hx hb hg inG0 tyX0 tyX0_ok nmX0 hown hK hP hD hS 0 rfl rfl 2 (by decide) (hg _ wd_59) (fun _ h9 => h9) rfl hin rfl (by decide +kernel) rfl rfl (Nat.le_of_ble_eq_true rfl) dX0_init_23 (fun H_9 locs hP hD hS => ?_)
  have hP : va_P D vwCl [(oa, .inr (0, [.ref q_1, .ref q_5, .ref sa, .int 0, .long 0]))] H_9 := hP
  have hD : va_D A [(oa, .inr (0, [.ref q_1, .ref q_5, .ref sa, .int 0, .long 0]))] := hD
  exact W.vret hx hb hr (fun t ht hW => ⟨⟨(), rfl, trivial, trivial⟩, hS.F ht⟩) hS.2.2 dX0_init_26
set_option maxHeartbeats 4000000 in
set_option maxRecDepth 100000 in
theorem k_DaySums_120 (l : Launch) (D : va_G) (sz : Nat) (oa : Nat) : Met l yX1_init (wsM yX1_init cX1_init 3 none) ({ frames := 1, cells := 3, slots := 360, locals := 13 }) (va_Pc [.ref oa, .int 120] (Pr D [(oa, .inr (1, [.null, .null, .null, .int 0]))] [] sz)) (va_Qv (fun _ : Unit => True) (fun _ _ => True) (va_A [(oa, .inr (1, [.null, .null, .null, .int 0]))] sz)) 3 360 (va_A [(oa, .inr (1, [.null, .null, .null, .int 0]))] sz) := by
  refine Met.ofW (cc := cX1_init) (maxL := 3) (ret := none) (by decide) rfl ?_
  intro p e s m args below meth c s₁ B hml hv
  obtain ⟨rfl, hsz, hP, hK, hD0, hN⟩ := hv
  have hx := B.exec
  have hb := B.bytes
  have hr := B.returns
  have hts := atoms_spec (ws := (wsM yX1_init cX1_init 3 none)) B.pre
  have hg : ∀ w ∈ lw_good, w.before _ s = true := fun w h => hts w (List.mem_cons_of_mem _ h)
  have hown : s.vm.findClass RX1 = some m.cls := findClass_of_methodNamed B.named
  have hlocks := B.notSynchronized
  have hin : meth.name = "<init>" := (name_of_methodNamed B.named B.method).1
  subst hsz
  have hD := hD0.self (sz := s.heap.size)
  generalize hAe : va_A [(oa, .inr (1, [.null, .null, .null, .int 0]))] s.heap.size = A at hD ⊢
  have hA : ∀ q : Nat, s.heap.size ≤ q → A q := fun q h => by rw [← hAe]; exact Or.inr h
  have hS : va_S A s.heap s.heap [] := va_S.rf
  have hP : va_P D vwCl [(oa, .inr (1, [.null, .null, .null, .int 0]))] s.heap := hP
  have hl := lv_entry ([.ref oa, .int 120]) (n := 3) (Nat.le_of_ble_eq_true rfl)
  rw [lg_entry_eq]
  generalize (lg_sl ([.ref oa, .int 120]) ++ List.replicate (3 - (lg_sl ([.ref oa, .int 120])).length) Slot.unset).toArray = ls at hl ⊢
  have hl : lv_has ls 3 [(0, .ref oa), (1, .int 120)] := hl
  refine lv_aload_n hx hb dX1_init_0 rfl (lv_at hl 0 rfl) ?_
  refine W.objInit hx hb hown (hg _ wd_60) (hg _ wd_44) (hg _ wd_obj) rfl (by rw [hml]; exact hl.1) rfl dX1_init_1 (Nat.le_of_ble_eq_true rfl) (Nat.le_of_ble_eq_true rfl) ?_
  refine W.eq (g2 := F0 m 4 ls []) rfl ?_
  refine lv_iconst (v := 0) hx hb dX1_init_4 (by decide) ?_
  refine lv_iload_n hx hb dX1_init_5 rfl (lv_at hl 1 rfl) ?_
  refine va_mmax hx hb (by rw [hml]; exact hl.1.symm) hown (hg _ wd_61) (hg _ wd_62) (hg _ wd_63) (hg _ wd_64) (Nat.le_of_ble_eq_true rfl) (Nat.le_of_ble_eq_true rfl) (Nat.le_of_ble_eq_true rfl) (Nat.le_of_ble_eq_true rfl) dX1_init_6 ?_
  refine lv_topi (fun f_1 ef_1 => ?_)
  obtain rfl : f_1 = 120 := by rw [ef_1]; decide
  refine lv_istore_n (lv' := [(2, .int 120), (0, .ref oa), (1, .int 120)]) hx hb dX1_init_9 rfl hl (by decide) rfl (fun ls hl => ?_)
  refine lv_aload_n hx hb dX1_init_10 rfl (lv_at hl 1 rfl) ?_
  refine lv_iload_n hx hb dX1_init_11 rfl (lv_at hl 0 rfl) ?_
  refine va_newq (C := RX9) (N' := 120) hx hb hown (hg _ wd_65) (hN.ao RX9 62 rfl) hK hP hD hS hA (by decide) (by decide) (Nat.le_of_ble_eq_true rfl) (Nat.le_of_ble_eq_true rfl) (Nat.le_of_ble_eq_true rfl) dX1_init_12 (fun q_2 cA_4 H_3 hK hP hD hS => ?_)
  have hK : va_K D vwCl [(cA_4, .object RX9)] s := hK
  have hP : va_P D vwCl [(oa, .inr (1, [.null, .null, .null, .int 0])), (q_2, .inl (cA_4, 120, .inr (.inr (.inr (.inr (fun _ => none))))))] H_3 := hP
  have hD : va_D A [(oa, .inr (1, [.null, .null, .null, .int 0])), (q_2, .inl (cA_4, 120, .inr (.inr (.inr (.inr (fun _ => none))))))] := hD
  refine W.widen (k := 1) (n := 120) (Nat.le_of_ble_eq_true rfl) (Nat.le_of_ble_eq_true rfl) ?_
  refine va_putF (D := D) (ci := 1) (v := .ref q_2) (ty := .array (.object "PartnersBook$Tenure")) (C := RX1) (T := TX1) (N := 4) hx hb hg inG1 tyX1 tyX1_ok nmX1 hown hK hP hD hS 0 rfl rfl 0 (by decide) (hg _ wd_66) (fun _ h9 => h9) rfl hin rfl (by decide +kernel) rfl rfl (Nat.le_of_ble_eq_true rfl) dX1_init_15 (fun H_5 locs hP hD hS => ?_)
  have hP : va_P D vwCl [(oa, .inr (1, [.ref q_2, .null, .null, .int 0])), (q_2, .inl (cA_4, 120, .inr (.inr (.inr (.inr (fun _ => none))))))] H_5 := hP
  have hD : va_D A [(oa, .inr (1, [.ref q_2, .null, .null, .int 0])), (q_2, .inl (cA_4, 120, .inr (.inr (.inr (.inr (fun _ => none))))))] := hD
  have hP := hP.sub (ws' := [(oa, .inr (1, [.ref q_2, .null, .null, .int 0]))]) [0] rfl
  have hD := hD.sub (ws' := [(oa, .inr (1, [.ref q_2, .null, .null, .int 0]))]) [0] (by decide) rfl
  refine lv_aload_n hx hb dX1_init_18 rfl (lv_at hl 1 rfl) ?_
  refine lv_iload_n hx hb dX1_init_19 rfl (lv_at hl 0 rfl) ?_
  refine va_newa (atype := .int) (ty := .int) (a0 := (120, .inl (fun _ => 0))) hx hb (hg _ wd_53) rfl hK hP hD hS hA (fun cA => rfl) (by decide) (by decide) (Nat.le_of_ble_eq_true rfl) (Nat.le_of_ble_eq_true rfl) (Nat.le_of_ble_eq_true rfl) dX1_init_20 (fun q_6 cA_8 H_7 hK hP hD hS => ?_)
  have hK : va_K D vwCl [(cA_4, .object RX9), (cA_8, .int)] s := hK
  have hP : va_P D vwCl [(oa, .inr (1, [.ref q_2, .null, .null, .int 0])), (q_6, .inl (cA_8, 120, .inl (fun _ => 0)))] H_7 := hP
  have hD : va_D A [(oa, .inr (1, [.ref q_2, .null, .null, .int 0])), (q_6, .inl (cA_8, 120, .inl (fun _ => 0)))] := hD
  refine W.widen (k := 2) (n := 240) (Nat.le_of_ble_eq_true rfl) (Nat.le_of_ble_eq_true rfl) ?_
  refine va_putF (D := D) (ci := 1) (v := .ref q_6) (ty := .array .int) (C := RX1) (T := TX1) (N := 4) hx hb hg inG1 tyX1 tyX1_ok nmX1 hown hK hP hD hS 0 rfl rfl 1 (by decide) (hg _ wd_67) (fun _ h9 => h9) rfl hin rfl (by decide +kernel) rfl rfl (Nat.le_of_ble_eq_true rfl) dX1_init_22 (fun H_9 locs hP hD hS => ?_)
  have hP : va_P D vwCl [(oa, .inr (1, [.ref q_2, .ref q_6, .null, .int 0])), (q_6, .inl (cA_8, 120, .inl (fun _ => 0)))] H_9 := hP
  have hD : va_D A [(oa, .inr (1, [.ref q_2, .ref q_6, .null, .int 0])), (q_6, .inl (cA_8, 120, .inl (fun _ => 0)))] := hD
  have hP := hP.sub (ws' := [(oa, .inr (1, [.ref q_2, .ref q_6, .null, .int 0]))]) [0] rfl
  have hD := hD.sub (ws' := [(oa, .inr (1, [.ref q_2, .ref q_6, .null, .int 0]))]) [0] (by decide) rfl
  refine lv_aload_n hx hb dX1_init_25 rfl (lv_at hl 1 rfl) ?_
  refine lv_iload_n hx hb dX1_init_26 rfl (lv_at hl 0 rfl) ?_
  refine va_newa (atype := .int) (ty := .int) (a0 := (120, .inl (fun _ => 0))) hx hb (hg _ wd_53) rfl hK hP hD hS hA (fun cA => rfl) (by decide) (by decide) (Nat.le_of_ble_eq_true rfl) (Nat.le_of_ble_eq_true rfl) (Nat.le_of_ble_eq_true rfl) dX1_init_27 (fun q_10 cA_12 H_11 hK hP hD hS => ?_)
  have hK : va_K D vwCl [(cA_4, .object RX9), (cA_8, .int), (cA_12, .int)] s := hK
  have hP : va_P D vwCl [(oa, .inr (1, [.ref q_2, .ref q_6, .null, .int 0])), (q_10, .inl (cA_12, 120, .inl (fun _ => 0)))] H_11 := hP
  have hD : va_D A [(oa, .inr (1, [.ref q_2, .ref q_6, .null, .int 0])), (q_10, .inl (cA_12, 120, .inl (fun _ => 0)))] := hD
  refine W.widen (k := 3) (n := 360) (Nat.le_of_ble_eq_true rfl) (Nat.le_of_ble_eq_true rfl) ?_
  refine va_putF (D := D) (ci := 1) (v := .ref q_10) (ty := .array .int) (C := RX1) (T := TX1) (N := 4) hx hb hg inG1 tyX1 tyX1_ok nmX1 hown hK hP hD hS 0 rfl rfl 2 (by decide) (hg _ wd_68) (fun _ h9 => h9) rfl hin rfl (by decide +kernel) rfl rfl (Nat.le_of_ble_eq_true rfl) dX1_init_29 (fun H_13 locs hP hD hS => ?_)
  have hP : va_P D vwCl [(oa, .inr (1, [.ref q_2, .ref q_6, .ref q_10, .int 0])), (q_10, .inl (cA_12, 120, .inl (fun _ => 0)))] H_13 := hP
  have hD : va_D A [(oa, .inr (1, [.ref q_2, .ref q_6, .ref q_10, .int 0])), (q_10, .inl (cA_12, 120, .inl (fun _ => 0)))] := hD
  have hP := hP.sub (ws' := [(oa, .inr (1, [.ref q_2, .ref q_6, .ref q_10, .int 0]))]) [0] rfl
  have hD := hD.sub (ws' := [(oa, .inr (1, [.ref q_2, .ref q_6, .ref q_10, .int 0]))]) [0] (by decide) rfl
  exact W.vret hx hb hr (fun t ht hW => ⟨⟨(), rfl, trivial, trivial⟩, hS.F ht⟩) hS.2.2 dX1_init_32
set_option maxHeartbeats 4000000 in
set_option maxRecDepth 100000 in
theorem k_DaySums_20 (l : Launch) (D : va_G) (sz : Nat) (oa : Nat) : Met l yX1_init (wsM yX1_init cX1_init 3 none) ({ frames := 1, cells := 3, slots := 60, locals := 13 }) (va_Pc [.ref oa, .int 20] (Pr D [(oa, .inr (1, [.null, .null, .null, .int 0]))] [] sz)) (va_Qv (fun _ : Unit => True) (fun _ _ => True) (va_A [(oa, .inr (1, [.null, .null, .null, .int 0]))] sz)) 3 60 (va_A [(oa, .inr (1, [.null, .null, .null, .int 0]))] sz) := by
  refine Met.ofW (cc := cX1_init) (maxL := 3) (ret := none) (by decide) rfl ?_
  intro p e s m args below meth c s₁ B hml hv
  obtain ⟨rfl, hsz, hP, hK, hD0, hN⟩ := hv
  have hx := B.exec
  have hb := B.bytes
  have hr := B.returns
  have hts := atoms_spec (ws := (wsM yX1_init cX1_init 3 none)) B.pre
  have hg : ∀ w ∈ lw_good, w.before _ s = true := fun w h => hts w (List.mem_cons_of_mem _ h)
  have hown : s.vm.findClass RX1 = some m.cls := findClass_of_methodNamed B.named
  have hlocks := B.notSynchronized
  have hin : meth.name = "<init>" := (name_of_methodNamed B.named B.method).1
  subst hsz
  have hD := hD0.self (sz := s.heap.size)
  generalize hAe : va_A [(oa, .inr (1, [.null, .null, .null, .int 0]))] s.heap.size = A at hD ⊢
  have hA : ∀ q : Nat, s.heap.size ≤ q → A q := fun q h => by rw [← hAe]; exact Or.inr h
  have hS : va_S A s.heap s.heap [] := va_S.rf
  have hP : va_P D vwCl [(oa, .inr (1, [.null, .null, .null, .int 0]))] s.heap := hP
  have hl := lv_entry ([.ref oa, .int 20]) (n := 3) (Nat.le_of_ble_eq_true rfl)
  rw [lg_entry_eq]
  generalize (lg_sl ([.ref oa, .int 20]) ++ List.replicate (3 - (lg_sl ([.ref oa, .int 20])).length) Slot.unset).toArray = ls at hl ⊢
  have hl : lv_has ls 3 [(0, .ref oa), (1, .int 20)] := hl
  refine lv_aload_n hx hb dX1_init_0 rfl (lv_at hl 0 rfl) ?_
  refine W.objInit hx hb hown (hg _ wd_60) (hg _ wd_44) (hg _ wd_obj) rfl (by rw [hml]; exact hl.1) rfl dX1_init_1 (Nat.le_of_ble_eq_true rfl) (Nat.le_of_ble_eq_true rfl) ?_
  refine W.eq (g2 := F0 m 4 ls []) rfl ?_
  refine lv_iconst (v := 0) hx hb dX1_init_4 (by decide) ?_
  refine lv_iload_n hx hb dX1_init_5 rfl (lv_at hl 1 rfl) ?_
  refine va_mmax hx hb (by rw [hml]; exact hl.1.symm) hown (hg _ wd_61) (hg _ wd_62) (hg _ wd_63) (hg _ wd_64) (Nat.le_of_ble_eq_true rfl) (Nat.le_of_ble_eq_true rfl) (Nat.le_of_ble_eq_true rfl) (Nat.le_of_ble_eq_true rfl) dX1_init_6 ?_
  refine lv_topi (fun f_1 ef_1 => ?_)
  obtain rfl : f_1 = 20 := by rw [ef_1]; decide
  refine lv_istore_n (lv' := [(2, .int 20), (0, .ref oa), (1, .int 20)]) hx hb dX1_init_9 rfl hl (by decide) rfl (fun ls hl => ?_)
  refine lv_aload_n hx hb dX1_init_10 rfl (lv_at hl 1 rfl) ?_
  refine lv_iload_n hx hb dX1_init_11 rfl (lv_at hl 0 rfl) ?_
  refine va_newq (C := RX9) (N' := 20) hx hb hown (hg _ wd_65) (hN.ao RX9 62 rfl) hK hP hD hS hA (by decide) (by decide) (Nat.le_of_ble_eq_true rfl) (Nat.le_of_ble_eq_true rfl) (Nat.le_of_ble_eq_true rfl) dX1_init_12 (fun q_2 cA_4 H_3 hK hP hD hS => ?_)
  have hK : va_K D vwCl [(cA_4, .object RX9)] s := hK
  have hP : va_P D vwCl [(oa, .inr (1, [.null, .null, .null, .int 0])), (q_2, .inl (cA_4, 20, .inr (.inr (.inr (.inr (fun _ => none))))))] H_3 := hP
  have hD : va_D A [(oa, .inr (1, [.null, .null, .null, .int 0])), (q_2, .inl (cA_4, 20, .inr (.inr (.inr (.inr (fun _ => none))))))] := hD
  refine W.widen (k := 1) (n := 20) (Nat.le_of_ble_eq_true rfl) (Nat.le_of_ble_eq_true rfl) ?_
  refine va_putF (D := D) (ci := 1) (v := .ref q_2) (ty := .array (.object "PartnersBook$Tenure")) (C := RX1) (T := TX1) (N := 4) hx hb hg inG1 tyX1 tyX1_ok nmX1 hown hK hP hD hS 0 rfl rfl 0 (by decide) (hg _ wd_66) (fun _ h9 => h9) rfl hin rfl (by decide +kernel) rfl rfl (Nat.le_of_ble_eq_true rfl) dX1_init_15 (fun H_5 locs hP hD hS => ?_)
  have hP : va_P D vwCl [(oa, .inr (1, [.ref q_2, .null, .null, .int 0])), (q_2, .inl (cA_4, 20, .inr (.inr (.inr (.inr (fun _ => none))))))] H_5 := hP
  have hD : va_D A [(oa, .inr (1, [.ref q_2, .null, .null, .int 0])), (q_2, .inl (cA_4, 20, .inr (.inr (.inr (.inr (fun _ => none))))))] := hD
  have hP := hP.sub (ws' := [(oa, .inr (1, [.ref q_2, .null, .null, .int 0]))]) [0] rfl
  have hD := hD.sub (ws' := [(oa, .inr (1, [.ref q_2, .null, .null, .int 0]))]) [0] (by decide) rfl
  refine lv_aload_n hx hb dX1_init_18 rfl (lv_at hl 1 rfl) ?_
  refine lv_iload_n hx hb dX1_init_19 rfl (lv_at hl 0 rfl) ?_
  refine va_newa (atype := .int) (ty := .int) (a0 := (20, .inl (fun _ => 0))) hx hb (hg _ wd_53) rfl hK hP hD hS hA (fun cA => rfl) (by decide) (by decide) (Nat.le_of_ble_eq_true rfl) (Nat.le_of_ble_eq_true rfl) (Nat.le_of_ble_eq_true rfl) dX1_init_20 (fun q_6 cA_8 H_7 hK hP hD hS => ?_)
  have hK : va_K D vwCl [(cA_4, .object RX9), (cA_8, .int)] s := hK
  have hP : va_P D vwCl [(oa, .inr (1, [.ref q_2, .null, .null, .int 0])), (q_6, .inl (cA_8, 20, .inl (fun _ => 0)))] H_7 := hP
  have hD : va_D A [(oa, .inr (1, [.ref q_2, .null, .null, .int 0])), (q_6, .inl (cA_8, 20, .inl (fun _ => 0)))] := hD
  refine W.widen (k := 2) (n := 40) (Nat.le_of_ble_eq_true rfl) (Nat.le_of_ble_eq_true rfl) ?_
  refine va_putF (D := D) (ci := 1) (v := .ref q_6) (ty := .array .int) (C := RX1) (T := TX1) (N := 4) hx hb hg inG1 tyX1 tyX1_ok nmX1 hown hK hP hD hS 0 rfl rfl 1 (by decide) (hg _ wd_67) (fun _ h9 => h9) rfl hin rfl (by decide +kernel) rfl rfl (Nat.le_of_ble_eq_true rfl) dX1_init_22 (fun H_9 locs hP hD hS => ?_)
  have hP : va_P D vwCl [(oa, .inr (1, [.ref q_2, .ref q_6, .null, .int 0])), (q_6, .inl (cA_8, 20, .inl (fun _ => 0)))] H_9 := hP
  have hD : va_D A [(oa, .inr (1, [.ref q_2, .ref q_6, .null, .int 0])), (q_6, .inl (cA_8, 20, .inl (fun _ => 0)))] := hD
  have hP := hP.sub (ws' := [(oa, .inr (1, [.ref q_2, .ref q_6, .null, .int 0]))]) [0] rfl
  have hD := hD.sub (ws' := [(oa, .inr (1, [.ref q_2, .ref q_6, .null, .int 0]))]) [0] (by decide) rfl
  refine lv_aload_n hx hb dX1_init_25 rfl (lv_at hl 1 rfl) ?_
  refine lv_iload_n hx hb dX1_init_26 rfl (lv_at hl 0 rfl) ?_
  refine va_newa (atype := .int) (ty := .int) (a0 := (20, .inl (fun _ => 0))) hx hb (hg _ wd_53) rfl hK hP hD hS hA (fun cA => rfl) (by decide) (by decide) (Nat.le_of_ble_eq_true rfl) (Nat.le_of_ble_eq_true rfl) (Nat.le_of_ble_eq_true rfl) dX1_init_27 (fun q_10 cA_12 H_11 hK hP hD hS => ?_)
  have hK : va_K D vwCl [(cA_4, .object RX9), (cA_8, .int), (cA_12, .int)] s := hK
  have hP : va_P D vwCl [(oa, .inr (1, [.ref q_2, .ref q_6, .null, .int 0])), (q_10, .inl (cA_12, 20, .inl (fun _ => 0)))] H_11 := hP
  have hD : va_D A [(oa, .inr (1, [.ref q_2, .ref q_6, .null, .int 0])), (q_10, .inl (cA_12, 20, .inl (fun _ => 0)))] := hD
  refine W.widen (k := 3) (n := 60) (Nat.le_of_ble_eq_true rfl) (Nat.le_of_ble_eq_true rfl) ?_
  refine va_putF (D := D) (ci := 1) (v := .ref q_10) (ty := .array .int) (C := RX1) (T := TX1) (N := 4) hx hb hg inG1 tyX1 tyX1_ok nmX1 hown hK hP hD hS 0 rfl rfl 2 (by decide) (hg _ wd_68) (fun _ h9 => h9) rfl hin rfl (by decide +kernel) rfl rfl (Nat.le_of_ble_eq_true rfl) dX1_init_29 (fun H_13 locs hP hD hS => ?_)
  have hP : va_P D vwCl [(oa, .inr (1, [.ref q_2, .ref q_6, .ref q_10, .int 0])), (q_10, .inl (cA_12, 20, .inl (fun _ => 0)))] H_13 := hP
  have hD : va_D A [(oa, .inr (1, [.ref q_2, .ref q_6, .ref q_10, .int 0])), (q_10, .inl (cA_12, 20, .inl (fun _ => 0)))] := hD
  have hP := hP.sub (ws' := [(oa, .inr (1, [.ref q_2, .ref q_6, .ref q_10, .int 0]))]) [0] rfl
  have hD := hD.sub (ws' := [(oa, .inr (1, [.ref q_2, .ref q_6, .ref q_10, .int 0]))]) [0] (by decide) rfl
  exact W.vret hx hb hr (fun t ht hW => ⟨⟨(), rfl, trivial, trivial⟩, hS.F ht⟩) hS.2.2 dX1_init_32
set_option maxHeartbeats 4000000 in
set_option maxRecDepth 100000 in
theorem k_Ring_init (l : Launch) (D : va_G) (sz : Nat) (oa : Nat) : Met l yX5_init (wsM yX5_init cX5_init 1 none) ({ frames := 1, cells := 2, slots := 16, locals := 12 }) (va_Pc [.ref oa] (Pr D [(oa, .inr (5, [.null, .null, .int 0]))] [] sz)) (va_Qv (fun _ : Unit => True) (fun _ t => ∃ (e0 : Nat) (e1 : Nat), Po D [(oa, .inr (5, [.ref e0, .ref e1, .int 0]))] [] (va_A [(oa, .inr (5, [.null, .null, .int 0]))] sz) t) (va_A [(oa, .inr (5, [.null, .null, .int 0]))] sz)) 2 16 (va_A [(oa, .inr (5, [.null, .null, .int 0]))] sz) := by
  refine Met.ofW (cc := cX5_init) (maxL := 1) (ret := none) (by decide) rfl ?_
  intro p e s m args below meth c s₁ B hml hv
  obtain ⟨rfl, hsz, hP, hK, hD0, hN⟩ := hv
  have hx := B.exec
  have hb := B.bytes
  have hr := B.returns
  have hts := atoms_spec (ws := (wsM yX5_init cX5_init 1 none)) B.pre
  have hg : ∀ w ∈ lw_good, w.before _ s = true := fun w h => hts w (List.mem_cons_of_mem _ h)
  have hown : s.vm.findClass RX5 = some m.cls := findClass_of_methodNamed B.named
  have hlocks := B.notSynchronized
  have hin : meth.name = "<init>" := (name_of_methodNamed B.named B.method).1
  subst hsz
  have hD := hD0.self (sz := s.heap.size)
  generalize hAe : va_A [(oa, .inr (5, [.null, .null, .int 0]))] s.heap.size = A at hD ⊢
  have hA : ∀ q : Nat, s.heap.size ≤ q → A q := fun q h => by rw [← hAe]; exact Or.inr h
  have hS : va_S A s.heap s.heap [] := va_S.rf
  have hP : va_P D vwCl [(oa, .inr (5, [.null, .null, .int 0]))] s.heap := hP
  have hl := lv_entry ([.ref oa]) (n := 1) (Nat.le_of_ble_eq_true rfl)
  rw [lg_entry_eq]
  generalize (lg_sl ([.ref oa]) ++ List.replicate (1 - (lg_sl ([.ref oa])).length) Slot.unset).toArray = ls at hl ⊢
  have hl : lv_has ls 1 [(0, .ref oa)] := hl
  refine lv_aload_n hx hb dX5_init_0 rfl (lv_at hl 0 rfl) ?_
  refine W.objInit hx hb hown (hg _ wd_69) (hg _ wd_44) (hg _ wd_obj) rfl (by rw [hml]; exact hl.1) rfl dX5_init_1 (Nat.le_of_ble_eq_true rfl) (Nat.le_of_ble_eq_true rfl) ?_
  refine W.eq (g2 := F0 m 4 ls []) rfl ?_
  refine lv_aload_n hx hb dX5_init_4 rfl (lv_at hl 0 rfl) ?_
  refine lv_bipush (v := 8) hx hb dX5_init_5 (by decide) ?_
  refine va_newa (atype := .int) (ty := .int) (a0 := (8, .inl (fun _ => 0))) hx hb (hg _ wd_53) rfl hK hP hD hS hA (fun cA => rfl) (by decide) (by decide) (Nat.le_of_ble_eq_true rfl) (Nat.le_of_ble_eq_true rfl) (Nat.le_of_ble_eq_true rfl) dX5_init_7 (fun q_1 cA_3 H_2 hK hP hD hS => ?_)
  have hK : va_K D vwCl [(cA_3, .int)] s := hK
  have hP : va_P D vwCl [(oa, .inr (5, [.null, .null, .int 0])), (q_1, .inl (cA_3, 8, .inl (fun _ => 0)))] H_2 := hP
  have hD : va_D A [(oa, .inr (5, [.null, .null, .int 0])), (q_1, .inl (cA_3, 8, .inl (fun _ => 0)))] := hD
  refine W.widen (k := 1) (n := 8) (Nat.le_of_ble_eq_true rfl) (Nat.le_of_ble_eq_true rfl) ?_
  refine va_putF (D := D) (ci := 5) (v := .ref q_1) (ty := .array .int) (C := RX5) (T := TX5) (N := 3) hx hb hg inG5 tyX5 tyX5_ok nmX5 hown hK hP hD hS 0 rfl rfl 0 (by decide) (hg _ wd_70) (fun _ h9 => h9) rfl hin rfl (by decide +kernel) rfl rfl (Nat.le_of_ble_eq_true rfl) dX5_init_9 (fun H_4 locs hP hD hS => ?_)
  have hP : va_P D vwCl [(oa, .inr (5, [.ref q_1, .null, .int 0])), (q_1, .inl (cA_3, 8, .inl (fun _ => 0)))] H_4 := hP
  have hD : va_D A [(oa, .inr (5, [.ref q_1, .null, .int 0])), (q_1, .inl (cA_3, 8, .inl (fun _ => 0)))] := hD
  have hP := hP.sub (ws' := [(oa, .inr (5, [.ref q_1, .null, .int 0]))]) [0] rfl
  have hD := hD.sub (ws' := [(oa, .inr (5, [.ref q_1, .null, .int 0]))]) [0] (by decide) rfl
  refine lv_aload_n hx hb dX5_init_12 rfl (lv_at hl 0 rfl) ?_
  refine lv_bipush (v := 8) hx hb dX5_init_13 (by decide) ?_
  refine va_newa (atype := .int) (ty := .int) (a0 := (8, .inl (fun _ => 0))) hx hb (hg _ wd_53) rfl hK hP hD hS hA (fun cA => rfl) (by decide) (by decide) (Nat.le_of_ble_eq_true rfl) (Nat.le_of_ble_eq_true rfl) (Nat.le_of_ble_eq_true rfl) dX5_init_15 (fun q_5 cA_7 H_6 hK hP hD hS => ?_)
  have hK : va_K D vwCl [(cA_3, .int), (cA_7, .int)] s := hK
  have hP : va_P D vwCl [(oa, .inr (5, [.ref q_1, .null, .int 0])), (q_5, .inl (cA_7, 8, .inl (fun _ => 0)))] H_6 := hP
  have hD : va_D A [(oa, .inr (5, [.ref q_1, .null, .int 0])), (q_5, .inl (cA_7, 8, .inl (fun _ => 0)))] := hD
  refine W.widen (k := 2) (n := 16) (Nat.le_of_ble_eq_true rfl) (Nat.le_of_ble_eq_true rfl) ?_
  refine va_putF (D := D) (ci := 5) (v := .ref q_5) (ty := .array .int) (C := RX5) (T := TX5) (N := 3) hx hb hg inG5 tyX5 tyX5_ok nmX5 hown hK hP hD hS 0 rfl rfl 1 (by decide) (hg _ wd_71) (fun _ h9 => h9) rfl hin rfl (by decide +kernel) rfl rfl (Nat.le_of_ble_eq_true rfl) dX5_init_17 (fun H_8 locs hP hD hS => ?_)
  have hP : va_P D vwCl [(oa, .inr (5, [.ref q_1, .ref q_5, .int 0])), (q_5, .inl (cA_7, 8, .inl (fun _ => 0)))] H_8 := hP
  have hD : va_D A [(oa, .inr (5, [.ref q_1, .ref q_5, .int 0])), (q_5, .inl (cA_7, 8, .inl (fun _ => 0)))] := hD
  have hP := hP.sub (ws' := [(oa, .inr (5, [.ref q_1, .ref q_5, .int 0]))]) [0] rfl
  have hD := hD.sub (ws' := [(oa, .inr (5, [.ref q_1, .ref q_5, .int 0]))]) [0] (by decide) rfl
  have hP9 := hP.sub (ws' := [(oa, .inr (5, [.ref q_1, .ref q_5, .int 0]))]) [0] rfl
  have hD9 := hD.sub (ws' := [(oa, .inr (5, [.ref q_1, .ref q_5, .int 0]))]) [0] (by decide) rfl
  have hK9 := hK.sub (tys' := []) [] rfl
  exact W.vret hx hb hr (fun t ht hW => ⟨⟨(), rfl, trivial, ⟨q_1, q_5, by rw [ht]; exact hP9, va_K.moved hW.alike hK9, hD9⟩⟩, hS.F ht⟩) hS.2.2 dX5_init_20
set_option maxHeartbeats 4000000 in
set_option maxRecDepth 100000 in
theorem k_Partner_init (l : Launch) (D : va_G) (sz : Nat) (oa : Nat) (k1 : Int32) (k2 : Int32) (k3 : Int32) : Met l yX4_init (wsM yX4_init cX4_init 5 none) ({ frames := 1, cells := 0, slots := 0, locals := 12 }) (va_Pc [.ref oa, .int k1, .int k2, .int k3, .null] (Pr D [(oa, .inr (4, [.int 0, .int 0, .int 0, .null]))] [] sz)) (va_Qv (fun _ : Unit => True) (fun _ t => Po D [(oa, .inr (4, [.int k1, .int k2, .int k3, .null]))] [] (va_A [(oa, .inr (4, [.int 0, .int 0, .int 0, .null]))] sz) t) (va_A [(oa, .inr (4, [.int 0, .int 0, .int 0, .null]))] sz)) 0 0 (va_A [(oa, .inr (4, [.int 0, .int 0, .int 0, .null]))] sz) := by
  refine Met.ofW (cc := cX4_init) (maxL := 5) (ret := none) (by decide) rfl ?_
  intro p e s m args below meth c s₁ B hml hv
  obtain ⟨rfl, hsz, hP, hK, hD0, hN⟩ := hv
  have hx := B.exec
  have hb := B.bytes
  have hr := B.returns
  have hts := atoms_spec (ws := (wsM yX4_init cX4_init 5 none)) B.pre
  have hg : ∀ w ∈ lw_good, w.before _ s = true := fun w h => hts w (List.mem_cons_of_mem _ h)
  have hown : s.vm.findClass RX4 = some m.cls := findClass_of_methodNamed B.named
  have hlocks := B.notSynchronized
  have hin : meth.name = "<init>" := (name_of_methodNamed B.named B.method).1
  subst hsz
  have hD := hD0.self (sz := s.heap.size)
  generalize hAe : va_A [(oa, .inr (4, [.int 0, .int 0, .int 0, .null]))] s.heap.size = A at hD ⊢
  have hA : ∀ q : Nat, s.heap.size ≤ q → A q := fun q h => by rw [← hAe]; exact Or.inr h
  have hS : va_S A s.heap s.heap [] := va_S.rf
  have hP : va_P D vwCl [(oa, .inr (4, [.int 0, .int 0, .int 0, .null]))] s.heap := hP
  have hl := lv_entry ([.ref oa, .int k1, .int k2, .int k3, .null]) (n := 5) (Nat.le_of_ble_eq_true rfl)
  rw [lg_entry_eq]
  generalize (lg_sl ([.ref oa, .int k1, .int k2, .int k3, .null]) ++ List.replicate (5 - (lg_sl ([.ref oa, .int k1, .int k2, .int k3, .null])).length) Slot.unset).toArray = ls at hl ⊢
  have hl : lv_has ls 5 [(0, .ref oa), (1, .int k1), (2, .int k2), (3, .int k3), (4, .null)] := hl
  refine lv_aload_n hx hb dX4_init_0 rfl (lv_at hl 0 rfl) ?_
  refine W.objInit hx hb hown (hg _ wd_72) (hg _ wd_44) (hg _ wd_obj) rfl (by rw [hml]; exact hl.1) rfl dX4_init_1 (Nat.le_of_ble_eq_true rfl) (Nat.le_of_ble_eq_true rfl) ?_
  refine W.eq (g2 := F0 m 4 ls []) rfl ?_
  refine lv_aload_n hx hb dX4_init_4 rfl (lv_at hl 0 rfl) ?_
  refine lv_iload_n hx hb dX4_init_5 rfl (lv_at hl 1 rfl) ?_
  refine va_putF (D := D) (ci := 4) (v := .int k1) (ty := .int) (C := RX4) (T := TX4) (N := 4) hx hb hg inG4 tyX4 tyX4_ok nmX4 hown hK hP hD hS 0 rfl rfl 0 (by decide) (hg _ wd_73) (fun _ h9 => h9) rfl hin rfl (by decide +kernel) rfl rfl (Nat.le_of_ble_eq_true rfl) dX4_init_6 (fun H_1 locs hP hD hS => ?_)
  have hP : va_P D vwCl [(oa, .inr (4, [.int k1, .int 0, .int 0, .null]))] H_1 := hP
  have hD : va_D A [(oa, .inr (4, [.int k1, .int 0, .int 0, .null]))] := hD
  refine lv_aload_n hx hb dX4_init_9 rfl (lv_at hl 0 rfl) ?_
  refine lv_iload_n hx hb dX4_init_10 rfl (lv_at hl 2 rfl) ?_
  refine va_putF (D := D) (ci := 4) (v := .int k2) (ty := .int) (C := RX4) (T := TX4) (N := 4) hx hb hg inG4 tyX4 tyX4_ok nmX4 hown hK hP hD hS 0 rfl rfl 1 (by decide) (hg _ wd_74) (fun _ h9 => h9) rfl hin rfl (by decide +kernel) rfl rfl (Nat.le_of_ble_eq_true rfl) dX4_init_11 (fun H_2 locs hP hD hS => ?_)
  have hP : va_P D vwCl [(oa, .inr (4, [.int k1, .int k2, .int 0, .null]))] H_2 := hP
  have hD : va_D A [(oa, .inr (4, [.int k1, .int k2, .int 0, .null]))] := hD
  refine lv_aload_n hx hb dX4_init_14 rfl (lv_at hl 0 rfl) ?_
  refine lv_iload_n hx hb dX4_init_15 rfl (lv_at hl 3 rfl) ?_
  refine va_putF (D := D) (ci := 4) (v := .int k3) (ty := .int) (C := RX4) (T := TX4) (N := 4) hx hb hg inG4 tyX4 tyX4_ok nmX4 hown hK hP hD hS 0 rfl rfl 2 (by decide) (hg _ wd_75) (fun _ h9 => h9) rfl hin rfl (by decide +kernel) rfl rfl (Nat.le_of_ble_eq_true rfl) dX4_init_16 (fun H_3 locs hP hD hS => ?_)
  have hP : va_P D vwCl [(oa, .inr (4, [.int k1, .int k2, .int k3, .null]))] H_3 := hP
  have hD : va_D A [(oa, .inr (4, [.int k1, .int k2, .int k3, .null]))] := hD
  refine lv_aload_n hx hb dX4_init_19 rfl (lv_at hl 0 rfl) ?_
  refine lv_aloadN hx hb dX4_init_20 (lv_at hl 4 rfl) ?_
  refine va_putF (D := D) (ci := 4) (v := .null) (ty := .object "PartnersBook$House") (C := RX4) (T := TX4) (N := 4) hx hb hg inG4 tyX4 tyX4_ok nmX4 hown hK hP hD hS 0 rfl rfl 3 (by decide) (hg _ wd_76) (fun _ h9 => h9) rfl hin rfl (by decide +kernel) rfl rfl (Nat.le_of_ble_eq_true rfl) dX4_init_22 (fun H_4 locs hP hD hS => ?_)
  have hP : va_P D vwCl [(oa, .inr (4, [.int k1, .int k2, .int k3, .null]))] H_4 := hP
  have hD : va_D A [(oa, .inr (4, [.int k1, .int k2, .int k3, .null]))] := hD
  have hP9 := hP.sub (ws' := [(oa, .inr (4, [.int k1, .int k2, .int k3, .null]))]) [0] rfl
  have hD9 := hD.sub (ws' := [(oa, .inr (4, [.int k1, .int k2, .int k3, .null]))]) [0] (by decide) rfl
  have hK9 := hK.sub (tys' := []) [] rfl
  exact W.vret hx hb hr (fun t ht hW => ⟨⟨(), rfl, trivial, ⟨by rw [ht]; exact hP9, va_K.moved hW.alike hK9, hD9⟩⟩, hS.F ht⟩) hS.2.2 dX4_init_25
set_option maxHeartbeats 4000000 in
set_option maxRecDepth 100000 in
theorem k_House_init (l : Launch) (D : va_G) (sz : Nat) (oa : Nat) (k1 : Int32) (k2 : Int32) (sa : Nat) : Met l yX2_init (wsM yX2_init cX2_init 4 none) ({ frames := 2, cells := 20, slots := 2780, locals := 35 }) (va_Pc [.ref oa, .int k1, .int k2, .ref sa] (Pr D [(oa, .inr (2, [.int 0, .int 0, .int 0, .null, .int 0, .int 0, .null, .null, .null, .int 0, .null, .int 0, .null, .null, .long 0, .int 0, .null, .null, .null, .null]))] [] sz)) (va_Qv (fun _ : Unit => True) (fun _ t => ∃ (e0 : Int32) (e1 : Int32) (e2 : Int32) (e3 : Nat) (e4 : Int32) (e5 : Int32) (e6 : Nat) (e7 : Nat) (e8 : Nat) (e9 : Int32) (e10 : Nat) (e11 : Int32) (e12 : Nat) (e13 : Nat) (e14 : Int64) (e15 : Int32) (e16 : Nat) (e17 : Nat) (e18 : Nat) (e19 : Nat), Po D [(oa, .inr (2, [.int e0, .int e1, .int e2, .ref e3, .int e4, .int e5, .ref e6, .ref e7, .ref e8, .int e9, .ref e10, .int e11, .ref e12, .ref e13, .long e14, .int e15, .ref e16, .ref e17, .ref e18, .ref e19]))] [] (va_A [(oa, .inr (2, [.int 0, .int 0, .int 0, .null, .int 0, .int 0, .null, .null, .null, .int 0, .null, .int 0, .null, .null, .long 0, .int 0, .null, .null, .null, .null]))] sz) t) (va_A [(oa, .inr (2, [.int 0, .int 0, .int 0, .null, .int 0, .int 0, .null, .null, .null, .int 0, .null, .int 0, .null, .null, .long 0, .int 0, .null, .null, .null, .null]))] sz)) 20 2780 (va_A [(oa, .inr (2, [.int 0, .int 0, .int 0, .null, .int 0, .int 0, .null, .null, .null, .int 0, .null, .int 0, .null, .null, .long 0, .int 0, .null, .null, .null, .null]))] sz) := by
  refine Met.ofW (cc := cX2_init) (maxL := 4) (ret := none) (by decide) rfl ?_
  intro p e s m args below meth c s₁ B hml hv
  obtain ⟨rfl, hsz, hP, hK, hD0, hN⟩ := hv
  have hx := B.exec
  have hb := B.bytes
  have hr := B.returns
  have hts := atoms_spec (ws := (wsM yX2_init cX2_init 4 none)) B.pre
  have hg : ∀ w ∈ lw_good, w.before _ s = true := fun w h => hts w (List.mem_cons_of_mem _ h)
  have hown : s.vm.findClass RX2 = some m.cls := findClass_of_methodNamed B.named
  have hlocks := B.notSynchronized
  have hin : meth.name = "<init>" := (name_of_methodNamed B.named B.method).1
  subst hsz
  have hD := hD0.self (sz := s.heap.size)
  generalize hAe : va_A [(oa, .inr (2, [.int 0, .int 0, .int 0, .null, .int 0, .int 0, .null, .null, .null, .int 0, .null, .int 0, .null, .null, .long 0, .int 0, .null, .null, .null, .null]))] s.heap.size = A at hD ⊢
  have hA : ∀ q : Nat, s.heap.size ≤ q → A q := fun q h => by rw [← hAe]; exact Or.inr h
  have hS : va_S A s.heap s.heap [] := va_S.rf
  have hP : va_P D vwCl [(oa, .inr (2, [.int 0, .int 0, .int 0, .null, .int 0, .int 0, .null, .null, .null, .int 0, .null, .int 0, .null, .null, .long 0, .int 0, .null, .null, .null, .null]))] s.heap := hP
  have hl := lv_entry ([.ref oa, .int k1, .int k2, .ref sa]) (n := 4) (Nat.le_of_ble_eq_true rfl)
  rw [lg_entry_eq]
  generalize (lg_sl ([.ref oa, .int k1, .int k2, .ref sa]) ++ List.replicate (4 - (lg_sl ([.ref oa, .int k1, .int k2, .ref sa])).length) Slot.unset).toArray = ls at hl ⊢
  have hl : lv_has ls 4 [(0, .ref oa), (1, .int k1), (2, .int k2), (3, .ref sa)] := hl
  refine lv_aload_n hx hb dX2_init_0 rfl (lv_at hl 0 rfl) ?_
  refine W.objInit hx hb hown (hg _ wd_77) (hg _ wd_44) (hg _ wd_obj) rfl (by rw [hml]; exact hl.1) rfl dX2_init_1 (Nat.le_of_ble_eq_true rfl) (Nat.le_of_ble_eq_true rfl) ?_
  refine W.eq (g2 := F0 m 4 ls []) rfl ?_
  refine lv_aload_n hx hb dX2_init_4 rfl (lv_at hl 0 rfl) ?_
  refine lv_bipush (v := 12) hx hb dX2_init_5 (by decide) ?_
  refine va_newa (atype := .int) (ty := .int) (a0 := (12, .inl (fun _ => 0))) hx hb (hg _ wd_53) rfl hK hP hD hS hA (fun cA => rfl) (by decide) (by decide) (Nat.le_of_ble_eq_true rfl) (Nat.le_of_ble_eq_true rfl) (Nat.le_of_ble_eq_true rfl) dX2_init_7 (fun q_1 cA_3 H_2 hK hP hD hS => ?_)
  have hK : va_K D vwCl [(cA_3, .int)] s := hK
  have hP : va_P D vwCl [(oa, .inr (2, [.int 0, .int 0, .int 0, .null, .int 0, .int 0, .null, .null, .null, .int 0, .null, .int 0, .null, .null, .long 0, .int 0, .null, .null, .null, .null])), (q_1, .inl (cA_3, 12, .inl (fun _ => 0)))] H_2 := hP
  have hD : va_D A [(oa, .inr (2, [.int 0, .int 0, .int 0, .null, .int 0, .int 0, .null, .null, .null, .int 0, .null, .int 0, .null, .null, .long 0, .int 0, .null, .null, .null, .null])), (q_1, .inl (cA_3, 12, .inl (fun _ => 0)))] := hD
  refine W.widen (k := 1) (n := 12) (Nat.le_of_ble_eq_true rfl) (Nat.le_of_ble_eq_true rfl) ?_
  refine va_putF (D := D) (ci := 2) (v := .ref q_1) (ty := .array .int) (C := RX2) (T := TX2) (N := 20) hx hb hg inG2 tyX2 tyX2_ok nmX2 hown hK hP hD hS 0 rfl rfl 3 (by decide) (hg _ wd_78) (fun _ h9 => h9) rfl hin rfl (by decide +kernel) rfl rfl (Nat.le_of_ble_eq_true rfl) dX2_init_9 (fun H_4 locs hP hD hS => ?_)
  have hP : va_P D vwCl [(oa, .inr (2, [.int 0, .int 0, .int 0, .ref q_1, .int 0, .int 0, .null, .null, .null, .int 0, .null, .int 0, .null, .null, .long 0, .int 0, .null, .null, .null, .null])), (q_1, .inl (cA_3, 12, .inl (fun _ => 0)))] H_4 := hP
  have hD : va_D A [(oa, .inr (2, [.int 0, .int 0, .int 0, .ref q_1, .int 0, .int 0, .null, .null, .null, .int 0, .null, .int 0, .null, .null, .long 0, .int 0, .null, .null, .null, .null])), (q_1, .inl (cA_3, 12, .inl (fun _ => 0)))] := hD
  have hP := hP.sub (ws' := [(oa, .inr (2, [.int 0, .int 0, .int 0, .ref q_1, .int 0, .int 0, .null, .null, .null, .int 0, .null, .int 0, .null, .null, .long 0, .int 0, .null, .null, .null, .null]))]) [0] rfl
  have hD := hD.sub (ws' := [(oa, .inr (2, [.int 0, .int 0, .int 0, .ref q_1, .int 0, .int 0, .null, .null, .null, .int 0, .null, .int 0, .null, .null, .long 0, .int 0, .null, .null, .null, .null]))]) [0] (by decide) rfl
  refine lv_aload_n hx hb dX2_init_12 rfl (lv_at hl 0 rfl) ?_
  refine lv_bipush (v := 6) hx hb dX2_init_13 (by decide) ?_
  refine va_newa (atype := .int) (ty := .int) (a0 := (6, .inl (fun _ => 0))) hx hb (hg _ wd_53) rfl hK hP hD hS hA (fun cA => rfl) (by decide) (by decide) (Nat.le_of_ble_eq_true rfl) (Nat.le_of_ble_eq_true rfl) (Nat.le_of_ble_eq_true rfl) dX2_init_15 (fun q_5 cA_7 H_6 hK hP hD hS => ?_)
  have hK : va_K D vwCl [(cA_3, .int), (cA_7, .int)] s := hK
  have hP : va_P D vwCl [(oa, .inr (2, [.int 0, .int 0, .int 0, .ref q_1, .int 0, .int 0, .null, .null, .null, .int 0, .null, .int 0, .null, .null, .long 0, .int 0, .null, .null, .null, .null])), (q_5, .inl (cA_7, 6, .inl (fun _ => 0)))] H_6 := hP
  have hD : va_D A [(oa, .inr (2, [.int 0, .int 0, .int 0, .ref q_1, .int 0, .int 0, .null, .null, .null, .int 0, .null, .int 0, .null, .null, .long 0, .int 0, .null, .null, .null, .null])), (q_5, .inl (cA_7, 6, .inl (fun _ => 0)))] := hD
  refine W.widen (k := 2) (n := 18) (Nat.le_of_ble_eq_true rfl) (Nat.le_of_ble_eq_true rfl) ?_
  refine va_putF (D := D) (ci := 2) (v := .ref q_5) (ty := .array .int) (C := RX2) (T := TX2) (N := 20) hx hb hg inG2 tyX2 tyX2_ok nmX2 hown hK hP hD hS 0 rfl rfl 6 (by decide) (hg _ wd_79) (fun _ h9 => h9) rfl hin rfl (by decide +kernel) rfl rfl (Nat.le_of_ble_eq_true rfl) dX2_init_17 (fun H_8 locs hP hD hS => ?_)
  have hP : va_P D vwCl [(oa, .inr (2, [.int 0, .int 0, .int 0, .ref q_1, .int 0, .int 0, .ref q_5, .null, .null, .int 0, .null, .int 0, .null, .null, .long 0, .int 0, .null, .null, .null, .null])), (q_5, .inl (cA_7, 6, .inl (fun _ => 0)))] H_8 := hP
  have hD : va_D A [(oa, .inr (2, [.int 0, .int 0, .int 0, .ref q_1, .int 0, .int 0, .ref q_5, .null, .null, .int 0, .null, .int 0, .null, .null, .long 0, .int 0, .null, .null, .null, .null])), (q_5, .inl (cA_7, 6, .inl (fun _ => 0)))] := hD
  have hP := hP.sub (ws' := [(oa, .inr (2, [.int 0, .int 0, .int 0, .ref q_1, .int 0, .int 0, .ref q_5, .null, .null, .int 0, .null, .int 0, .null, .null, .long 0, .int 0, .null, .null, .null, .null]))]) [0] rfl
  have hD := hD.sub (ws' := [(oa, .inr (2, [.int 0, .int 0, .int 0, .ref q_1, .int 0, .int 0, .ref q_5, .null, .null, .int 0, .null, .int 0, .null, .null, .long 0, .int 0, .null, .null, .null, .null]))]) [0] (by decide) rfl
  refine lv_aload_n hx hb dX2_init_20 rfl (lv_at hl 0 rfl) ?_
  refine lv_bipush (v := 6) hx hb dX2_init_21 (by decide) ?_
  refine va_newq (C := RX9) (N' := 6) hx hb hown (hg _ wd_80) (hN.ao RX9 62 rfl) hK hP hD hS hA (by decide) (by decide) (Nat.le_of_ble_eq_true rfl) (Nat.le_of_ble_eq_true rfl) (Nat.le_of_ble_eq_true rfl) dX2_init_23 (fun q_9 cA_11 H_10 hK hP hD hS => ?_)
  have hK : va_K D vwCl [(cA_3, .int), (cA_7, .int), (cA_11, .object RX9)] s := hK
  have hP : va_P D vwCl [(oa, .inr (2, [.int 0, .int 0, .int 0, .ref q_1, .int 0, .int 0, .ref q_5, .null, .null, .int 0, .null, .int 0, .null, .null, .long 0, .int 0, .null, .null, .null, .null])), (q_9, .inl (cA_11, 6, .inr (.inr (.inr (.inr (fun _ => none))))))] H_10 := hP
  have hD : va_D A [(oa, .inr (2, [.int 0, .int 0, .int 0, .ref q_1, .int 0, .int 0, .ref q_5, .null, .null, .int 0, .null, .int 0, .null, .null, .long 0, .int 0, .null, .null, .null, .null])), (q_9, .inl (cA_11, 6, .inr (.inr (.inr (.inr (fun _ => none))))))] := hD
  refine W.widen (k := 3) (n := 24) (Nat.le_of_ble_eq_true rfl) (Nat.le_of_ble_eq_true rfl) ?_
  refine va_putF (D := D) (ci := 2) (v := .ref q_9) (ty := .array (.object "PartnersBook$Tenure")) (C := RX2) (T := TX2) (N := 20) hx hb hg inG2 tyX2 tyX2_ok nmX2 hown hK hP hD hS 0 rfl rfl 7 (by decide) (hg _ wd_81) (fun _ h9 => h9) rfl hin rfl (by decide +kernel) rfl rfl (Nat.le_of_ble_eq_true rfl) dX2_init_26 (fun H_12 locs hP hD hS => ?_)
  have hP : va_P D vwCl [(oa, .inr (2, [.int 0, .int 0, .int 0, .ref q_1, .int 0, .int 0, .ref q_5, .ref q_9, .null, .int 0, .null, .int 0, .null, .null, .long 0, .int 0, .null, .null, .null, .null])), (q_9, .inl (cA_11, 6, .inr (.inr (.inr (.inr (fun _ => none))))))] H_12 := hP
  have hD : va_D A [(oa, .inr (2, [.int 0, .int 0, .int 0, .ref q_1, .int 0, .int 0, .ref q_5, .ref q_9, .null, .int 0, .null, .int 0, .null, .null, .long 0, .int 0, .null, .null, .null, .null])), (q_9, .inl (cA_11, 6, .inr (.inr (.inr (.inr (fun _ => none))))))] := hD
  have hP := hP.sub (ws' := [(oa, .inr (2, [.int 0, .int 0, .int 0, .ref q_1, .int 0, .int 0, .ref q_5, .ref q_9, .null, .int 0, .null, .int 0, .null, .null, .long 0, .int 0, .null, .null, .null, .null]))]) [0] rfl
  have hD := hD.sub (ws' := [(oa, .inr (2, [.int 0, .int 0, .int 0, .ref q_1, .int 0, .int 0, .ref q_5, .ref q_9, .null, .int 0, .null, .int 0, .null, .null, .long 0, .int 0, .null, .null, .null, .null]))]) [0] (by decide) rfl
  refine lv_aload_n hx hb dX2_init_29 rfl (lv_at hl 0 rfl) ?_
  refine lv_bipush (v := 24) hx hb dX2_init_30 (by decide) ?_
  refine va_newq (C := RX9) (N' := 24) hx hb hown (hg _ wd_80) (hN.ao RX9 62 rfl) hK hP hD hS hA (by decide) (by decide) (Nat.le_of_ble_eq_true rfl) (Nat.le_of_ble_eq_true rfl) (Nat.le_of_ble_eq_true rfl) dX2_init_32 (fun q_13 cA_15 H_14 hK hP hD hS => ?_)
  have hK : va_K D vwCl [(cA_3, .int), (cA_7, .int), (cA_11, .object RX9), (cA_15, .object RX9)] s := hK
  have hP : va_P D vwCl [(oa, .inr (2, [.int 0, .int 0, .int 0, .ref q_1, .int 0, .int 0, .ref q_5, .ref q_9, .null, .int 0, .null, .int 0, .null, .null, .long 0, .int 0, .null, .null, .null, .null])), (q_13, .inl (cA_15, 24, .inr (.inr (.inr (.inr (fun _ => none))))))] H_14 := hP
  have hD : va_D A [(oa, .inr (2, [.int 0, .int 0, .int 0, .ref q_1, .int 0, .int 0, .ref q_5, .ref q_9, .null, .int 0, .null, .int 0, .null, .null, .long 0, .int 0, .null, .null, .null, .null])), (q_13, .inl (cA_15, 24, .inr (.inr (.inr (.inr (fun _ => none))))))] := hD
  refine W.widen (k := 4) (n := 48) (Nat.le_of_ble_eq_true rfl) (Nat.le_of_ble_eq_true rfl) ?_
  refine va_putF (D := D) (ci := 2) (v := .ref q_13) (ty := .array (.object "PartnersBook$Tenure")) (C := RX2) (T := TX2) (N := 20) hx hb hg inG2 tyX2 tyX2_ok nmX2 hown hK hP hD hS 0 rfl rfl 8 (by decide) (hg _ wd_82) (fun _ h9 => h9) rfl hin rfl (by decide +kernel) rfl rfl (Nat.le_of_ble_eq_true rfl) dX2_init_35 (fun H_16 locs hP hD hS => ?_)
  have hP : va_P D vwCl [(oa, .inr (2, [.int 0, .int 0, .int 0, .ref q_1, .int 0, .int 0, .ref q_5, .ref q_9, .ref q_13, .int 0, .null, .int 0, .null, .null, .long 0, .int 0, .null, .null, .null, .null])), (q_13, .inl (cA_15, 24, .inr (.inr (.inr (.inr (fun _ => none))))))] H_16 := hP
  have hD : va_D A [(oa, .inr (2, [.int 0, .int 0, .int 0, .ref q_1, .int 0, .int 0, .ref q_5, .ref q_9, .ref q_13, .int 0, .null, .int 0, .null, .null, .long 0, .int 0, .null, .null, .null, .null])), (q_13, .inl (cA_15, 24, .inr (.inr (.inr (.inr (fun _ => none))))))] := hD
  have hP := hP.sub (ws' := [(oa, .inr (2, [.int 0, .int 0, .int 0, .ref q_1, .int 0, .int 0, .ref q_5, .ref q_9, .ref q_13, .int 0, .null, .int 0, .null, .null, .long 0, .int 0, .null, .null, .null, .null]))]) [0] rfl
  have hD := hD.sub (ws' := [(oa, .inr (2, [.int 0, .int 0, .int 0, .ref q_1, .int 0, .int 0, .ref q_5, .ref q_9, .ref q_13, .int 0, .null, .int 0, .null, .null, .long 0, .int 0, .null, .null, .null, .null]))]) [0] (by decide) rfl
  refine lv_aload_n hx hb dX2_init_38 rfl (lv_at hl 0 rfl) ?_
  refine lv_bipush (v := 16) hx hb dX2_init_39 (by decide) ?_
  refine va_newq (C := RX6) (N' := 16) hx hb hown (hg _ wd_83) (hN.ao RX6 63 rfl) hK hP hD hS hA (by decide) (by decide) (Nat.le_of_ble_eq_true rfl) (Nat.le_of_ble_eq_true rfl) (Nat.le_of_ble_eq_true rfl) dX2_init_41 (fun q_17 cA_19 H_18 hK hP hD hS => ?_)
  have hK : va_K D vwCl [(cA_3, .int), (cA_7, .int), (cA_11, .object RX9), (cA_15, .object RX9), (cA_19, .object RX6)] s := hK
  have hP : va_P D vwCl [(oa, .inr (2, [.int 0, .int 0, .int 0, .ref q_1, .int 0, .int 0, .ref q_5, .ref q_9, .ref q_13, .int 0, .null, .int 0, .null, .null, .long 0, .int 0, .null, .null, .null, .null])), (q_17, .inl (cA_19, 16, .inr (.inr (.inr (.inr (fun _ => none))))))] H_18 := hP
  have hD : va_D A [(oa, .inr (2, [.int 0, .int 0, .int 0, .ref q_1, .int 0, .int 0, .ref q_5, .ref q_9, .ref q_13, .int 0, .null, .int 0, .null, .null, .long 0, .int 0, .null, .null, .null, .null])), (q_17, .inl (cA_19, 16, .inr (.inr (.inr (.inr (fun _ => none))))))] := hD
  refine W.widen (k := 5) (n := 64) (Nat.le_of_ble_eq_true rfl) (Nat.le_of_ble_eq_true rfl) ?_
  refine va_putF (D := D) (ci := 2) (v := .ref q_17) (ty := .array (.object "PartnersBook$Rule")) (C := RX2) (T := TX2) (N := 20) hx hb hg inG2 tyX2 tyX2_ok nmX2 hown hK hP hD hS 0 rfl rfl 10 (by decide) (hg _ wd_84) (fun _ h9 => h9) rfl hin rfl (by decide +kernel) rfl rfl (Nat.le_of_ble_eq_true rfl) dX2_init_44 (fun H_20 locs hP hD hS => ?_)
  have hP : va_P D vwCl [(oa, .inr (2, [.int 0, .int 0, .int 0, .ref q_1, .int 0, .int 0, .ref q_5, .ref q_9, .ref q_13, .int 0, .ref q_17, .int 0, .null, .null, .long 0, .int 0, .null, .null, .null, .null])), (q_17, .inl (cA_19, 16, .inr (.inr (.inr (.inr (fun _ => none))))))] H_20 := hP
  have hD : va_D A [(oa, .inr (2, [.int 0, .int 0, .int 0, .ref q_1, .int 0, .int 0, .ref q_5, .ref q_9, .ref q_13, .int 0, .ref q_17, .int 0, .null, .null, .long 0, .int 0, .null, .null, .null, .null])), (q_17, .inl (cA_19, 16, .inr (.inr (.inr (.inr (fun _ => none))))))] := hD
  have hP := hP.sub (ws' := [(oa, .inr (2, [.int 0, .int 0, .int 0, .ref q_1, .int 0, .int 0, .ref q_5, .ref q_9, .ref q_13, .int 0, .ref q_17, .int 0, .null, .null, .long 0, .int 0, .null, .null, .null, .null]))]) [0] rfl
  have hD := hD.sub (ws' := [(oa, .inr (2, [.int 0, .int 0, .int 0, .ref q_1, .int 0, .int 0, .ref q_5, .ref q_9, .ref q_13, .int 0, .ref q_17, .int 0, .null, .null, .long 0, .int 0, .null, .null, .null, .null]))]) [0] (by decide) rfl
  refine lv_aload_n hx hb dX2_init_47 rfl (lv_at hl 0 rfl) ?_
  refine lv_sipush (v := 1000) hx hb dX2_init_48 (by decide) ?_
  refine va_newq (C := RX3) (N' := 1000) hx hb hown (hg _ wd_85) (hN.ao RX3 64 rfl) hK hP hD hS hA (by decide) (by decide) (Nat.le_of_ble_eq_true rfl) (Nat.le_of_ble_eq_true rfl) (Nat.le_of_ble_eq_true rfl) dX2_init_51 (fun q_21 cA_23 H_22 hK hP hD hS => ?_)
  have hK : va_K D vwCl [(cA_3, .int), (cA_7, .int), (cA_11, .object RX9), (cA_15, .object RX9), (cA_19, .object RX6), (cA_23, .object RX3)] s := hK
  have hP : va_P D vwCl [(oa, .inr (2, [.int 0, .int 0, .int 0, .ref q_1, .int 0, .int 0, .ref q_5, .ref q_9, .ref q_13, .int 0, .ref q_17, .int 0, .null, .null, .long 0, .int 0, .null, .null, .null, .null])), (q_21, .inl (cA_23, 1000, .inr (.inr (.inr (.inr (fun _ => none))))))] H_22 := hP
  have hD : va_D A [(oa, .inr (2, [.int 0, .int 0, .int 0, .ref q_1, .int 0, .int 0, .ref q_5, .ref q_9, .ref q_13, .int 0, .ref q_17, .int 0, .null, .null, .long 0, .int 0, .null, .null, .null, .null])), (q_21, .inl (cA_23, 1000, .inr (.inr (.inr (.inr (fun _ => none))))))] := hD
  refine W.widen (k := 6) (n := 1064) (Nat.le_of_ble_eq_true rfl) (Nat.le_of_ble_eq_true rfl) ?_
  refine va_putF (D := D) (ci := 2) (v := .ref q_21) (ty := .array (.object "PartnersBook$Leaf")) (C := RX2) (T := TX2) (N := 20) hx hb hg inG2 tyX2 tyX2_ok nmX2 hown hK hP hD hS 0 rfl rfl 12 (by decide) (hg _ wd_86) (fun _ h9 => h9) rfl hin rfl (by decide +kernel) rfl rfl (Nat.le_of_ble_eq_true rfl) dX2_init_54 (fun H_24 locs hP hD hS => ?_)
  have hP : va_P D vwCl [(oa, .inr (2, [.int 0, .int 0, .int 0, .ref q_1, .int 0, .int 0, .ref q_5, .ref q_9, .ref q_13, .int 0, .ref q_17, .int 0, .ref q_21, .null, .long 0, .int 0, .null, .null, .null, .null])), (q_21, .inl (cA_23, 1000, .inr (.inr (.inr (.inr (fun _ => none))))))] H_24 := hP
  have hD : va_D A [(oa, .inr (2, [.int 0, .int 0, .int 0, .ref q_1, .int 0, .int 0, .ref q_5, .ref q_9, .ref q_13, .int 0, .ref q_17, .int 0, .ref q_21, .null, .long 0, .int 0, .null, .null, .null, .null])), (q_21, .inl (cA_23, 1000, .inr (.inr (.inr (.inr (fun _ => none))))))] := hD
  have hP := hP.sub (ws' := [(oa, .inr (2, [.int 0, .int 0, .int 0, .ref q_1, .int 0, .int 0, .ref q_5, .ref q_9, .ref q_13, .int 0, .ref q_17, .int 0, .ref q_21, .null, .long 0, .int 0, .null, .null, .null, .null]))]) [0] rfl
  have hD := hD.sub (ws' := [(oa, .inr (2, [.int 0, .int 0, .int 0, .ref q_1, .int 0, .int 0, .ref q_5, .ref q_9, .ref q_13, .int 0, .ref q_17, .int 0, .ref q_21, .null, .long 0, .int 0, .null, .null, .null, .null]))]) [0] (by decide) rfl
  refine lv_aload_n hx hb dX2_init_57 rfl (lv_at hl 0 rfl) ?_
  refine lv_sipush (v := 1000) hx hb dX2_init_58 (by decide) ?_
  refine va_newa (atype := .long) (ty := .long) (a0 := (1000, .inr (.inl (fun _ => 0)))) hx hb (hg _ wd_47) rfl hK hP hD hS hA (fun cA => rfl) (by decide) (by decide) (Nat.le_of_ble_eq_true rfl) (Nat.le_of_ble_eq_true rfl) (Nat.le_of_ble_eq_true rfl) dX2_init_61 (fun q_25 cA_27 H_26 hK hP hD hS => ?_)
  have hK : va_K D vwCl [(cA_3, .int), (cA_7, .int), (cA_11, .object RX9), (cA_15, .object RX9), (cA_19, .object RX6), (cA_23, .object RX3), (cA_27, .long)] s := hK
  have hP : va_P D vwCl [(oa, .inr (2, [.int 0, .int 0, .int 0, .ref q_1, .int 0, .int 0, .ref q_5, .ref q_9, .ref q_13, .int 0, .ref q_17, .int 0, .ref q_21, .null, .long 0, .int 0, .null, .null, .null, .null])), (q_25, .inl (cA_27, 1000, .inr (.inl (fun _ => 0))))] H_26 := hP
  have hD : va_D A [(oa, .inr (2, [.int 0, .int 0, .int 0, .ref q_1, .int 0, .int 0, .ref q_5, .ref q_9, .ref q_13, .int 0, .ref q_17, .int 0, .ref q_21, .null, .long 0, .int 0, .null, .null, .null, .null])), (q_25, .inl (cA_27, 1000, .inr (.inl (fun _ => 0))))] := hD
  refine W.widen (k := 7) (n := 2064) (Nat.le_of_ble_eq_true rfl) (Nat.le_of_ble_eq_true rfl) ?_
  refine va_putF (D := D) (ci := 2) (v := .ref q_25) (ty := .array .long) (C := RX2) (T := TX2) (N := 20) hx hb hg inG2 tyX2 tyX2_ok nmX2 hown hK hP hD hS 0 rfl rfl 13 (by decide) (hg _ wd_87) (fun _ h9 => h9) rfl hin rfl (by decide +kernel) rfl rfl (Nat.le_of_ble_eq_true rfl) dX2_init_63 (fun H_28 locs hP hD hS => ?_)
  have hP : va_P D vwCl [(oa, .inr (2, [.int 0, .int 0, .int 0, .ref q_1, .int 0, .int 0, .ref q_5, .ref q_9, .ref q_13, .int 0, .ref q_17, .int 0, .ref q_21, .ref q_25, .long 0, .int 0, .null, .null, .null, .null])), (q_25, .inl (cA_27, 1000, .inr (.inl (fun _ => 0))))] H_28 := hP
  have hD : va_D A [(oa, .inr (2, [.int 0, .int 0, .int 0, .ref q_1, .int 0, .int 0, .ref q_5, .ref q_9, .ref q_13, .int 0, .ref q_17, .int 0, .ref q_21, .ref q_25, .long 0, .int 0, .null, .null, .null, .null])), (q_25, .inl (cA_27, 1000, .inr (.inl (fun _ => 0))))] := hD
  have hP := hP.sub (ws' := [(oa, .inr (2, [.int 0, .int 0, .int 0, .ref q_1, .int 0, .int 0, .ref q_5, .ref q_9, .ref q_13, .int 0, .ref q_17, .int 0, .ref q_21, .ref q_25, .long 0, .int 0, .null, .null, .null, .null]))]) [0] rfl
  have hD := hD.sub (ws' := [(oa, .inr (2, [.int 0, .int 0, .int 0, .ref q_1, .int 0, .int 0, .ref q_5, .ref q_9, .ref q_13, .int 0, .ref q_17, .int 0, .ref q_21, .ref q_25, .long 0, .int 0, .null, .null, .null, .null]))]) [0] (by decide) rfl
  refine lv_aload_n hx hb dX2_init_66 rfl (lv_at hl 0 rfl) ?_
  refine va_new (ci := 1) (fs := [.null, .null, .null, .int 0]) (C := RX1) (T := TX1) (N := 4) hx hb hg inG1 tyX1 tyX1_ok hown (hg _ wd_88) (hg _ wd_89) (hg _ wd_90) hK hP hD hS hA rfl dfX1 (Nat.le_of_ble_eq_true rfl) (Nat.le_of_ble_eq_true rfl) dX2_init_67 (fun q_29 H_30 hP hD hS => ?_)
  have hP : va_P D vwCl [(oa, .inr (2, [.int 0, .int 0, .int 0, .ref q_1, .int 0, .int 0, .ref q_5, .ref q_9, .ref q_13, .int 0, .ref q_17, .int 0, .ref q_21, .ref q_25, .long 0, .int 0, .null, .null, .null, .null])), (q_29, .inr (1, [.null, .null, .null, .int 0]))] H_30 := hP
  have hD : va_D A [(oa, .inr (2, [.int 0, .int 0, .int 0, .ref q_1, .int 0, .int 0, .ref q_5, .ref q_9, .ref q_13, .int 0, .ref q_17, .int 0, .ref q_21, .ref q_25, .long 0, .int 0, .null, .null, .null, .null])), (q_29, .inr (1, [.null, .null, .null, .int 0]))] := hD
  refine W.widen (k := 8) (n := 2068) (Nat.le_of_ble_eq_true rfl) (Nat.le_of_ble_eq_true rfl) ?_
  refine lv_dup hx hb dX2_init_70 rfl ?_
  refine lv_bipush (v := 120) hx hb dX2_init_71 (by decide) ?_
  have hPc := hP.sub (ws' := [(q_29, .inr (1, [.null, .null, .null, .int 0]))]) [1] rfl
  have hDc := hD.sub (ws' := [(q_29, .inr (1, [.null, .null, .null, .int 0]))]) [1] (by decide) rfl
  have hKc := hK.sub (tys' := []) [] rfl
  have hFc := va_free (wc := [(q_29, .inr (1, [.null, .null, .null, .int 0]))]) hD hS hA [1] rfl
  refine va_callv (va_runI (As := [.int 120]) (rest := [.ref q_29, .ref oa]) ⟨hx, hb, hml, hown, hg⟩ (k_DaySums_120 l D H_30.size q_29) (cwI 1 hg (gB wd_91) rfl rfl rfl (hg _ wd_90) (hg _ wd_92) (hg _ wd_93) rfl (by decide +kernel) ⟨(Nat.le_of_ble_eq_true rfl), (Nat.le_of_ble_eq_true rfl)⟩) ⟨Pr.blind, fun U hU hW => ⟨rfl, Pr.at hPc hKc hDc hN hU hW⟩⟩ rfl rfl hl.1 rfl (lv_room (Nat.le_of_ble_eq_true rfl)) dX2_init_73 ⟨(Nat.le_of_ble_eq_true rfl), (Nat.le_of_ble_eq_true rfl)⟩) hS (fun q _ h => hFc q h) hFc (fun u t H_31 locs ht hvm hw hB hz1 hk1 hS => ?_)
  obtain ⟨hP, hD⟩ := forget_join (wr := [(oa, .inr (2, [.int 0, .int 0, .int 0, .ref q_1, .int 0, .int 0, .ref q_5, .ref q_9, .ref q_13, .int 0, .ref q_17, .int 0, .ref q_21, .ref q_25, .long 0, .int 0, .null, .null, .null, .null]))]) hP hD [1] [0] rfl rfl (by decide) (by decide) hk1 hFc
  have hP : va_P D vwCl [(oa, .inr (2, [.int 0, .int 0, .int 0, .ref q_1, .int 0, .int 0, .ref q_5, .ref q_9, .ref q_13, .int 0, .ref q_17, .int 0, .ref q_21, .ref q_25, .long 0, .int 0, .null, .null, .null, .null]))] H_31 := hP
  have hD : va_D A [(oa, .inr (2, [.int 0, .int 0, .int 0, .ref q_1, .int 0, .int 0, .ref q_5, .ref q_9, .ref q_13, .int 0, .ref q_17, .int 0, .ref q_21, .ref q_25, .long 0, .int 0, .null, .null, .null, .null]))] := hD
  refine W.widen (k := 11) (n := 2428) (Nat.le_of_ble_eq_true rfl) (Nat.le_of_ble_eq_true rfl) ?_
  refine va_putF (D := D) (ci := 2) (v := .ref q_29) (ty := .object "PartnersBook$DaySums") (C := RX2) (T := TX2) (N := 20) hx hb hg inG2 tyX2 tyX2_ok nmX2 hown hK hP hD hS 0 rfl rfl 16 (by decide) (hg _ wd_94) (fun _ h9 => h9) rfl hin rfl (by decide +kernel) rfl rfl (Nat.le_of_ble_eq_true rfl) dX2_init_76 (fun H_33 locs hP hD hS => ?_)
  have hP : va_P D vwCl [(oa, .inr (2, [.int 0, .int 0, .int 0, .ref q_1, .int 0, .int 0, .ref q_5, .ref q_9, .ref q_13, .int 0, .ref q_17, .int 0, .ref q_21, .ref q_25, .long 0, .int 0, .ref q_29, .null, .null, .null]))] H_33 := hP
  have hD : va_D A [(oa, .inr (2, [.int 0, .int 0, .int 0, .ref q_1, .int 0, .int 0, .ref q_5, .ref q_9, .ref q_13, .int 0, .ref q_17, .int 0, .ref q_21, .ref q_25, .long 0, .int 0, .ref q_29, .null, .null, .null]))] := hD
  refine lv_aload_n hx hb dX2_init_79 rfl (lv_at hl 0 rfl) ?_
  refine va_new (ci := 1) (fs := [.null, .null, .null, .int 0]) (C := RX1) (T := TX1) (N := 4) hx hb hg inG1 tyX1 tyX1_ok hown (hg _ wd_88) (hg _ wd_89) (hg _ wd_90) hK hP hD hS hA rfl dfX1 (Nat.le_of_ble_eq_true rfl) (Nat.le_of_ble_eq_true rfl) dX2_init_80 (fun q_34 H_35 hP hD hS => ?_)
  have hP : va_P D vwCl [(oa, .inr (2, [.int 0, .int 0, .int 0, .ref q_1, .int 0, .int 0, .ref q_5, .ref q_9, .ref q_13, .int 0, .ref q_17, .int 0, .ref q_21, .ref q_25, .long 0, .int 0, .ref q_29, .null, .null, .null])), (q_34, .inr (1, [.null, .null, .null, .int 0]))] H_35 := hP
  have hD : va_D A [(oa, .inr (2, [.int 0, .int 0, .int 0, .ref q_1, .int 0, .int 0, .ref q_5, .ref q_9, .ref q_13, .int 0, .ref q_17, .int 0, .ref q_21, .ref q_25, .long 0, .int 0, .ref q_29, .null, .null, .null])), (q_34, .inr (1, [.null, .null, .null, .int 0]))] := hD
  refine W.widen (k := 12) (n := 2432) (Nat.le_of_ble_eq_true rfl) (Nat.le_of_ble_eq_true rfl) ?_
  refine lv_dup hx hb dX2_init_83 rfl ?_
  refine lv_bipush (v := 20) hx hb dX2_init_84 (by decide) ?_
  have hPc := hP.sub (ws' := [(q_34, .inr (1, [.null, .null, .null, .int 0]))]) [1] rfl
  have hDc := hD.sub (ws' := [(q_34, .inr (1, [.null, .null, .null, .int 0]))]) [1] (by decide) rfl
  have hKc := hK.sub (tys' := []) [] rfl
  have hFc := va_free (wc := [(q_34, .inr (1, [.null, .null, .null, .int 0]))]) hD hS hA [1] rfl
  refine va_callv (va_runI (As := [.int 20]) (rest := [.ref q_34, .ref oa]) ⟨hx, hb, hml, hown, hg⟩ (k_DaySums_20 l D H_35.size q_34) (cwI 1 hg (gB wd_91) rfl rfl rfl (hg _ wd_90) (hg _ wd_92) (hg _ wd_93) rfl (by decide +kernel) ⟨(Nat.le_of_ble_eq_true rfl), (Nat.le_of_ble_eq_true rfl)⟩) ⟨Pr.blind, fun U hU hW => ⟨rfl, Pr.at hPc hKc hDc hN hU hW⟩⟩ rfl rfl hl.1 rfl (lv_room (Nat.le_of_ble_eq_true rfl)) dX2_init_86 ⟨(Nat.le_of_ble_eq_true rfl), (Nat.le_of_ble_eq_true rfl)⟩) hS (fun q _ h => hFc q h) hFc (fun u t H_36 locs ht hvm hw hB hz1 hk1 hS => ?_)
  obtain ⟨hP, hD⟩ := forget_join (wr := [(oa, .inr (2, [.int 0, .int 0, .int 0, .ref q_1, .int 0, .int 0, .ref q_5, .ref q_9, .ref q_13, .int 0, .ref q_17, .int 0, .ref q_21, .ref q_25, .long 0, .int 0, .ref q_29, .null, .null, .null]))]) hP hD [1] [0] rfl rfl (by decide) (by decide) hk1 hFc
  have hP : va_P D vwCl [(oa, .inr (2, [.int 0, .int 0, .int 0, .ref q_1, .int 0, .int 0, .ref q_5, .ref q_9, .ref q_13, .int 0, .ref q_17, .int 0, .ref q_21, .ref q_25, .long 0, .int 0, .ref q_29, .null, .null, .null]))] H_36 := hP
  have hD : va_D A [(oa, .inr (2, [.int 0, .int 0, .int 0, .ref q_1, .int 0, .int 0, .ref q_5, .ref q_9, .ref q_13, .int 0, .ref q_17, .int 0, .ref q_21, .ref q_25, .long 0, .int 0, .ref q_29, .null, .null, .null]))] := hD
  refine W.widen (k := 15) (n := 2492) (Nat.le_of_ble_eq_true rfl) (Nat.le_of_ble_eq_true rfl) ?_
  refine va_putF (D := D) (ci := 2) (v := .ref q_34) (ty := .object "PartnersBook$DaySums") (C := RX2) (T := TX2) (N := 20) hx hb hg inG2 tyX2 tyX2_ok nmX2 hown hK hP hD hS 0 rfl rfl 17 (by decide) (hg _ wd_95) (fun _ h9 => h9) rfl hin rfl (by decide +kernel) rfl rfl (Nat.le_of_ble_eq_true rfl) dX2_init_89 (fun H_38 locs hP hD hS => ?_)
  have hP : va_P D vwCl [(oa, .inr (2, [.int 0, .int 0, .int 0, .ref q_1, .int 0, .int 0, .ref q_5, .ref q_9, .ref q_13, .int 0, .ref q_17, .int 0, .ref q_21, .ref q_25, .long 0, .int 0, .ref q_29, .ref q_34, .null, .null]))] H_38 := hP
  have hD : va_D A [(oa, .inr (2, [.int 0, .int 0, .int 0, .ref q_1, .int 0, .int 0, .ref q_5, .ref q_9, .ref q_13, .int 0, .ref q_17, .int 0, .ref q_21, .ref q_25, .long 0, .int 0, .ref q_29, .ref q_34, .null, .null]))] := hD
  refine lv_aload_n hx hb dX2_init_92 rfl (lv_at hl 0 rfl) ?_
  refine va_new (ci := 10) (fs := [.null, .int 0, .int 0]) (C := RX10) (T := TX10) (N := 3) hx hb hg inG10 tyX10 tyX10_ok hown (hg _ wd_96) (hg _ wd_97) (hg _ wd_98) hK hP hD hS hA rfl dfX10 (Nat.le_of_ble_eq_true rfl) (Nat.le_of_ble_eq_true rfl) dX2_init_93 (fun q_39 H_40 hP hD hS => ?_)
  have hP : va_P D vwCl [(oa, .inr (2, [.int 0, .int 0, .int 0, .ref q_1, .int 0, .int 0, .ref q_5, .ref q_9, .ref q_13, .int 0, .ref q_17, .int 0, .ref q_21, .ref q_25, .long 0, .int 0, .ref q_29, .ref q_34, .null, .null])), (q_39, .inr (10, [.null, .int 0, .int 0]))] H_40 := hP
  have hD : va_D A [(oa, .inr (2, [.int 0, .int 0, .int 0, .ref q_1, .int 0, .int 0, .ref q_5, .ref q_9, .ref q_13, .int 0, .ref q_17, .int 0, .ref q_21, .ref q_25, .long 0, .int 0, .ref q_29, .ref q_34, .null, .null])), (q_39, .inr (10, [.null, .int 0, .int 0]))] := hD
  refine W.widen (k := 16) (n := 2495) (Nat.le_of_ble_eq_true rfl) (Nat.le_of_ble_eq_true rfl) ?_
  refine lv_dup hx hb dX2_init_96 rfl ?_
  have hPc := hP.sub (ws' := [(q_39, .inr (10, [.null, .int 0, .int 0]))]) [1] rfl
  have hDc := hD.sub (ws' := [(q_39, .inr (10, [.null, .int 0, .int 0]))]) [1] (by decide) rfl
  have hKc := hK.sub (tys' := []) [] rfl
  have hFc := va_free (wc := [(q_39, .inr (10, [.null, .int 0, .int 0]))]) hD hS hA [1] rfl
  refine va_callv (va_runIN (As := []) (rest := [.ref q_39, .ref oa]) ⟨hx, hb, hml, hown, hg⟩ (k_UndoLog_init l D H_40.size q_39) ⟨va_cnB 0 hg (gB wd_99) rfl rfl rfl (hN _ (List.mem_of_getElem? (i := 2) rfl) : va_Nw (Cond.methodLinkNest RX2 57 yX10_init RX11) s) (hg _ wd_98) (by decide +kernel) ⟨(Nat.le_of_ble_eq_true rfl), (Nat.le_of_ble_eq_true rfl)⟩, rfl, hg _ wd_100⟩ ⟨Pr.blind, fun U hU hW => ⟨rfl, Pr.at hPc hKc hDc hN hU hW⟩⟩ rfl rfl hl.1 rfl (lv_room (Nat.le_of_ble_eq_true rfl)) dX2_init_97 ⟨(Nat.le_of_ble_eq_true rfl), (Nat.le_of_ble_eq_true rfl)⟩) hS (fun q _ h => hFc q h) hFc (fun u t H_41 locs ht hvm hw hB hz1 hk1 hS => ?_)
  obtain ⟨hP, hD⟩ := forget_join (wr := [(oa, .inr (2, [.int 0, .int 0, .int 0, .ref q_1, .int 0, .int 0, .ref q_5, .ref q_9, .ref q_13, .int 0, .ref q_17, .int 0, .ref q_21, .ref q_25, .long 0, .int 0, .ref q_29, .ref q_34, .null, .null]))]) hP hD [1] [0] rfl rfl (by decide) (by decide) hk1 hFc
  have hP : va_P D vwCl [(oa, .inr (2, [.int 0, .int 0, .int 0, .ref q_1, .int 0, .int 0, .ref q_5, .ref q_9, .ref q_13, .int 0, .ref q_17, .int 0, .ref q_21, .ref q_25, .long 0, .int 0, .ref q_29, .ref q_34, .null, .null]))] H_41 := hP
  have hD : va_D A [(oa, .inr (2, [.int 0, .int 0, .int 0, .ref q_1, .int 0, .int 0, .ref q_5, .ref q_9, .ref q_13, .int 0, .ref q_17, .int 0, .ref q_21, .ref q_25, .long 0, .int 0, .ref q_29, .ref q_34, .null, .null]))] := hD
  refine W.widen (k := 17) (n := 2555) (Nat.le_of_ble_eq_true rfl) (Nat.le_of_ble_eq_true rfl) ?_
  refine va_putF (D := D) (ci := 2) (v := .ref q_39) (ty := .object "PartnersBook$UndoLog") (C := RX2) (T := TX2) (N := 20) hx hb hg inG2 tyX2 tyX2_ok nmX2 hown hK hP hD hS 0 rfl rfl 18 (by decide) (hg _ wd_101) (fun _ h9 => h9) rfl hin rfl (by decide +kernel) rfl rfl (Nat.le_of_ble_eq_true rfl) dX2_init_100 (fun H_43 locs hP hD hS => ?_)
  have hP : va_P D vwCl [(oa, .inr (2, [.int 0, .int 0, .int 0, .ref q_1, .int 0, .int 0, .ref q_5, .ref q_9, .ref q_13, .int 0, .ref q_17, .int 0, .ref q_21, .ref q_25, .long 0, .int 0, .ref q_29, .ref q_34, .ref q_39, .null]))] H_43 := hP
  have hD : va_D A [(oa, .inr (2, [.int 0, .int 0, .int 0, .ref q_1, .int 0, .int 0, .ref q_5, .ref q_9, .ref q_13, .int 0, .ref q_17, .int 0, .ref q_21, .ref q_25, .long 0, .int 0, .ref q_29, .ref q_34, .ref q_39, .null]))] := hD
  refine lv_aload_n hx hb dX2_init_103 rfl (lv_at hl 0 rfl) ?_
  refine lv_iload_n hx hb dX2_init_104 rfl (lv_at hl 1 rfl) ?_
  refine va_putF (D := D) (ci := 2) (v := .int k1) (ty := .int) (C := RX2) (T := TX2) (N := 20) hx hb hg inG2 tyX2 tyX2_ok nmX2 hown hK hP hD hS 0 rfl rfl 0 (by decide) (hg _ wd_102) (fun _ h9 => h9) rfl hin rfl (by decide +kernel) rfl rfl (Nat.le_of_ble_eq_true rfl) dX2_init_105 (fun H_44 locs hP hD hS => ?_)
  have hP : va_P D vwCl [(oa, .inr (2, [.int k1, .int 0, .int 0, .ref q_1, .int 0, .int 0, .ref q_5, .ref q_9, .ref q_13, .int 0, .ref q_17, .int 0, .ref q_21, .ref q_25, .long 0, .int 0, .ref q_29, .ref q_34, .ref q_39, .null]))] H_44 := hP
  have hD : va_D A [(oa, .inr (2, [.int k1, .int 0, .int 0, .ref q_1, .int 0, .int 0, .ref q_5, .ref q_9, .ref q_13, .int 0, .ref q_17, .int 0, .ref q_21, .ref q_25, .long 0, .int 0, .ref q_29, .ref q_34, .ref q_39, .null]))] := hD
  refine lv_aload_n hx hb dX2_init_108 rfl (lv_at hl 0 rfl) ?_
  refine lv_iload_n hx hb dX2_init_109 rfl (lv_at hl 2 rfl) ?_
  refine va_putF (D := D) (ci := 2) (v := .int k2) (ty := .int) (C := RX2) (T := TX2) (N := 20) hx hb hg inG2 tyX2 tyX2_ok nmX2 hown hK hP hD hS 0 rfl rfl 1 (by decide) (hg _ wd_103) (fun _ h9 => h9) rfl hin rfl (by decide +kernel) rfl rfl (Nat.le_of_ble_eq_true rfl) dX2_init_110 (fun H_45 locs hP hD hS => ?_)
  have hP : va_P D vwCl [(oa, .inr (2, [.int k1, .int k2, .int 0, .ref q_1, .int 0, .int 0, .ref q_5, .ref q_9, .ref q_13, .int 0, .ref q_17, .int 0, .ref q_21, .ref q_25, .long 0, .int 0, .ref q_29, .ref q_34, .ref q_39, .null]))] H_45 := hP
  have hD : va_D A [(oa, .inr (2, [.int k1, .int k2, .int 0, .ref q_1, .int 0, .int 0, .ref q_5, .ref q_9, .ref q_13, .int 0, .ref q_17, .int 0, .ref q_21, .ref q_25, .long 0, .int 0, .ref q_29, .ref q_34, .ref q_39, .null]))] := hD
  refine lv_aload_n hx hb dX2_init_113 rfl (lv_at hl 0 rfl) ?_
  refine lv_iload_n hx hb dX2_init_114 rfl (lv_at hl 2 rfl) ?_
  refine lv_iconst (v := 1) hx hb dX2_init_115 (by decide) ?_
  refine lv_isub hx hb dX2_init_116 ?_
  refine lv_topi (fun f_46 ef_46 => ?_)
  refine va_put (D := D) (ci := 2) (v := .int f_46) (ty := .int) (C := RX2) (T := TX2) (N := 20) hx hb hg inG2 tyX2 tyX2_ok nmX2 hown hK hP hD hS 0 rfl rfl 2 (by decide) (hg _ wd_104) (fun _ h9 => h9) rfl (by decide +kernel) rfl rfl (Nat.le_of_ble_eq_true rfl) dX2_init_117 (fun H_47 locs hP hD hS => ?_)
  have hP : va_P D vwCl [(oa, .inr (2, [.int k1, .int k2, .int f_46, .ref q_1, .int 0, .int 0, .ref q_5, .ref q_9, .ref q_13, .int 0, .ref q_17, .int 0, .ref q_21, .ref q_25, .long 0, .int 0, .ref q_29, .ref q_34, .ref q_39, .null]))] H_47 := hP
  have hD : va_D A [(oa, .inr (2, [.int k1, .int k2, .int f_46, .ref q_1, .int 0, .int 0, .ref q_5, .ref q_9, .ref q_13, .int 0, .ref q_17, .int 0, .ref q_21, .ref q_25, .long 0, .int 0, .ref q_29, .ref q_34, .ref q_39, .null]))] := hD
  refine lv_aload_n hx hb dX2_init_120 rfl (lv_at hl 0 rfl) ?_
  refine va_new (ci := 0) (fs := [.null, .null, .null, .int 0, .long 0]) (C := RX0) (T := TX0) (N := 5) hx hb hg inG0 tyX0 tyX0_ok hown (hg _ wd_105) (hg _ wd_106) (hg _ wd_107) hK hP hD hS hA rfl dfX0 (Nat.le_of_ble_eq_true rfl) (Nat.le_of_ble_eq_true rfl) dX2_init_121 (fun q_48 H_49 hP hD hS => ?_)
  have hP : va_P D vwCl [(oa, .inr (2, [.int k1, .int k2, .int f_46, .ref q_1, .int 0, .int 0, .ref q_5, .ref q_9, .ref q_13, .int 0, .ref q_17, .int 0, .ref q_21, .ref q_25, .long 0, .int 0, .ref q_29, .ref q_34, .ref q_39, .null])), (q_48, .inr (0, [.null, .null, .null, .int 0, .long 0]))] H_49 := hP
  have hD : va_D A [(oa, .inr (2, [.int k1, .int k2, .int f_46, .ref q_1, .int 0, .int 0, .ref q_5, .ref q_9, .ref q_13, .int 0, .ref q_17, .int 0, .ref q_21, .ref q_25, .long 0, .int 0, .ref q_29, .ref q_34, .ref q_39, .null])), (q_48, .inr (0, [.null, .null, .null, .int 0, .long 0]))] := hD
  refine W.widen (k := 18) (n := 2560) (Nat.le_of_ble_eq_true rfl) (Nat.le_of_ble_eq_true rfl) ?_
  refine lv_dup hx hb dX2_init_124 rfl ?_
  refine lv_aload_n hx hb dX2_init_125 rfl (lv_at hl 3 rfl) ?_
  have hPc := hP.sub (ws' := [(q_48, .inr (0, [.null, .null, .null, .int 0, .long 0]))]) [1] rfl
  have hDc := hD.sub (ws' := [(q_48, .inr (0, [.null, .null, .null, .int 0, .long 0]))]) [1] (by decide) rfl
  have hKc := hK.sub (tys' := []) [] rfl
  have hFc := va_free (wc := [(q_48, .inr (0, [.null, .null, .null, .int 0, .long 0]))]) hD hS hA [1] rfl
  refine va_callv (va_runI (As := [.ref sa]) (rest := [.ref q_48, .ref oa]) ⟨hx, hb, hml, hown, hg⟩ (k_Closing_init l D H_49.size q_48 sa) (cwI 1 hg (gB wd_108) rfl rfl rfl (hg _ wd_107) (hg _ wd_109) (hg _ wd_110) rfl (by decide +kernel) ⟨(Nat.le_of_ble_eq_true rfl), (Nat.le_of_ble_eq_true rfl)⟩) ⟨Pr.blind, fun U hU hW => ⟨rfl, Pr.at hPc hKc hDc hN hU hW⟩⟩ rfl rfl hl.1 rfl (lv_room (Nat.le_of_ble_eq_true rfl)) dX2_init_126 ⟨(Nat.le_of_ble_eq_true rfl), (Nat.le_of_ble_eq_true rfl)⟩) hS (fun q _ h => hFc q h) hFc (fun u t H_50 locs ht hvm hw hB hz1 hk1 hS => ?_)
  obtain ⟨hP, hD⟩ := forget_join (wr := [(oa, .inr (2, [.int k1, .int k2, .int f_46, .ref q_1, .int 0, .int 0, .ref q_5, .ref q_9, .ref q_13, .int 0, .ref q_17, .int 0, .ref q_21, .ref q_25, .long 0, .int 0, .ref q_29, .ref q_34, .ref q_39, .null]))]) hP hD [1] [0] rfl rfl (by decide) (by decide) hk1 hFc
  have hP : va_P D vwCl [(oa, .inr (2, [.int k1, .int k2, .int f_46, .ref q_1, .int 0, .int 0, .ref q_5, .ref q_9, .ref q_13, .int 0, .ref q_17, .int 0, .ref q_21, .ref q_25, .long 0, .int 0, .ref q_29, .ref q_34, .ref q_39, .null]))] H_50 := hP
  have hD : va_D A [(oa, .inr (2, [.int k1, .int k2, .int f_46, .ref q_1, .int 0, .int 0, .ref q_5, .ref q_9, .ref q_13, .int 0, .ref q_17, .int 0, .ref q_21, .ref q_25, .long 0, .int 0, .ref q_29, .ref q_34, .ref q_39, .null]))] := hD
  refine W.widen (k := 20) (n := 2780) (Nat.le_of_ble_eq_true rfl) (Nat.le_of_ble_eq_true rfl) ?_
  refine va_putF (D := D) (ci := 2) (v := .ref q_48) (ty := .object "PartnersBook$Closing") (C := RX2) (T := TX2) (N := 20) hx hb hg inG2 tyX2 tyX2_ok nmX2 hown hK hP hD hS 0 rfl rfl 19 (by decide) (hg _ wd_111) (fun _ h9 => h9) rfl hin rfl (by decide +kernel) rfl rfl (Nat.le_of_ble_eq_true rfl) dX2_init_129 (fun H_52 locs hP hD hS => ?_)
  have hP : va_P D vwCl [(oa, .inr (2, [.int k1, .int k2, .int f_46, .ref q_1, .int 0, .int 0, .ref q_5, .ref q_9, .ref q_13, .int 0, .ref q_17, .int 0, .ref q_21, .ref q_25, .long 0, .int 0, .ref q_29, .ref q_34, .ref q_39, .ref q_48]))] H_52 := hP
  have hD : va_D A [(oa, .inr (2, [.int k1, .int k2, .int f_46, .ref q_1, .int 0, .int 0, .ref q_5, .ref q_9, .ref q_13, .int 0, .ref q_17, .int 0, .ref q_21, .ref q_25, .long 0, .int 0, .ref q_29, .ref q_34, .ref q_39, .ref q_48]))] := hD
  have hP9 := hP.sub (ws' := [(oa, .inr (2, [.int k1, .int k2, .int f_46, .ref q_1, .int 0, .int 0, .ref q_5, .ref q_9, .ref q_13, .int 0, .ref q_17, .int 0, .ref q_21, .ref q_25, .long 0, .int 0, .ref q_29, .ref q_34, .ref q_39, .ref q_48]))]) [0] rfl
  have hD9 := hD.sub (ws' := [(oa, .inr (2, [.int k1, .int k2, .int f_46, .ref q_1, .int 0, .int 0, .ref q_5, .ref q_9, .ref q_13, .int 0, .ref q_17, .int 0, .ref q_21, .ref q_25, .long 0, .int 0, .ref q_29, .ref q_34, .ref q_39, .ref q_48]))]) [0] (by decide) rfl
  have hK9 := hK.sub (tys' := []) [] rfl
  exact W.vret hx hb hr (fun t ht hW => ⟨⟨(), rfl, trivial, ⟨k1, k2, f_46, q_1, 0, 0, q_5, q_9, q_13, 0, q_17, 0, q_21, q_25, 0, 0, q_29, q_34, q_39, q_48, by rw [ht]; exact hP9, va_K.moved hW.alike hK9, hD9⟩⟩, hS.F ht⟩) hS.2.2 dX2_init_132
set_option maxHeartbeats 4000000 in
set_option maxRecDepth 100000 in
theorem k_Book_init (l : Launch) (D : va_G) (sz : Nat) (xa : Nat) : Met l yX11_init (wsM yX11_init cX11_init 1 none) ({ frames := 2, cells := 13, slots := 622, locals := 32 }) (va_Pc [.ref xa] (Pr D [(xa, .inr (11, [.null, .int 0, .null, .int 0, .null, .null, .null, .int 0, .null, .int 0, .int 0]))] [] sz)) (va_Qv (fun _ : Unit => True) (fun _ t => ∃ (x0 : Nat) (x2 : Nat) (x4 : Nat) (x5 : Nat) (x6 : Nat) (x8 : Nat) (g0 : Nat) (g1 : Nat) (ca0 : ClassId) (ca2 : ClassId) (ca6 : ClassId) (ca8 : ClassId), Po D [(xa, .inr (11, [.ref x0, .int 0, .ref x2, .int 0, .ref x4, .ref x5, .ref x6, .int 0, .ref x8, .int 0, .int (-1)])), (x0, .inl (ca0, 8, .inr (.inr (.inr (.inr (fun _ => none)))))), (x2, .inl (ca2, 40, .inr (.inr (.inr (.inr (fun _ => none)))))), (x5, .inr (5, [.ref g0, .ref g1, .int 0])), (x6, .inl (ca6, 24, .inl (fun _ => 0))), (x8, .inl (ca8, 25, .inr (.inl (fun _ => 0))))] [(ca0, .object RX2), (ca2, .object RX4), (ca6, .int), (ca8, .long)] (va_A [(xa, .inr (11, [.null, .int 0, .null, .int 0, .null, .null, .null, .int 0, .null, .int 0, .int 0]))] sz) t) (va_A [(xa, .inr (11, [.null, .int 0, .null, .int 0, .null, .null, .null, .int 0, .null, .int 0, .int 0]))] sz)) 13 622 (va_A [(xa, .inr (11, [.null, .int 0, .null, .int 0, .null, .null, .null, .int 0, .null, .int 0, .int 0]))] sz) := by
  refine Met.ofW (cc := cX11_init) (maxL := 1) (ret := none) (by decide) rfl ?_
  intro p e s m args below meth c s₁ B hml hv
  obtain ⟨rfl, hsz, hP, hK, hD0, hN⟩ := hv
  have hx := B.exec
  have hb := B.bytes
  have hr := B.returns
  have hts := atoms_spec (ws := (wsM yX11_init cX11_init 1 none)) B.pre
  have hg : ∀ w ∈ lw_good, w.before _ s = true := fun w h => hts w (List.mem_cons_of_mem _ h)
  have hown : s.vm.findClass RX11 = some m.cls := findClass_of_methodNamed B.named
  have hlocks := B.notSynchronized
  have hin : meth.name = "<init>" := (name_of_methodNamed B.named B.method).1
  subst hsz
  have hD := hD0.self (sz := s.heap.size)
  generalize hAe : va_A [(xa, .inr (11, [.null, .int 0, .null, .int 0, .null, .null, .null, .int 0, .null, .int 0, .int 0]))] s.heap.size = A at hD ⊢
  have hA : ∀ q : Nat, s.heap.size ≤ q → A q := fun q h => by rw [← hAe]; exact Or.inr h
  have hS : va_S A s.heap s.heap [] := va_S.rf
  have hP : va_P D vwCl [(xa, .inr (11, [.null, .int 0, .null, .int 0, .null, .null, .null, .int 0, .null, .int 0, .int 0]))] s.heap := hP
  have hl := lv_entry ([.ref xa]) (n := 1) (Nat.le_of_ble_eq_true rfl)
  rw [lg_entry_eq]
  generalize (lg_sl ([.ref xa]) ++ List.replicate (1 - (lg_sl ([.ref xa])).length) Slot.unset).toArray = ls at hl ⊢
  have hl : lv_has ls 1 [(0, .ref xa)] := hl
  refine lv_aload_n hx hb dX11_init_0 rfl (lv_at hl 0 rfl) ?_
  refine W.objInit hx hb hown (hg _ wd_112) (hg _ wd_44) (hg _ wd_obj) rfl (by rw [hml]; exact hl.1) rfl dX11_init_1 (Nat.le_of_ble_eq_true rfl) (Nat.le_of_ble_eq_true rfl) ?_
  refine W.eq (g2 := F0 m 4 ls []) rfl ?_
  refine lv_aload_n hx hb dX11_init_4 rfl (lv_at hl 0 rfl) ?_
  refine lv_bipush (v := 8) hx hb dX11_init_5 (by decide) ?_
  refine va_newq (C := RX2) (N' := 8) hx hb hown (hg _ wd_113) (hN.ao RX2 60 rfl) hK hP hD hS hA (by decide) (by decide) (Nat.le_of_ble_eq_true rfl) (Nat.le_of_ble_eq_true rfl) (Nat.le_of_ble_eq_true rfl) dX11_init_7 (fun q_1 cA_3 H_2 hK hP hD hS => ?_)
  have hK : va_K D vwCl [(cA_3, .object RX2)] s := hK
  have hP : va_P D vwCl [(xa, .inr (11, [.null, .int 0, .null, .int 0, .null, .null, .null, .int 0, .null, .int 0, .int 0])), (q_1, .inl (cA_3, 8, .inr (.inr (.inr (.inr (fun _ => none))))))] H_2 := hP
  have hD : va_D A [(xa, .inr (11, [.null, .int 0, .null, .int 0, .null, .null, .null, .int 0, .null, .int 0, .int 0])), (q_1, .inl (cA_3, 8, .inr (.inr (.inr (.inr (fun _ => none))))))] := hD
  refine W.widen (k := 1) (n := 8) (Nat.le_of_ble_eq_true rfl) (Nat.le_of_ble_eq_true rfl) ?_
  refine va_putF (D := D) (ci := 11) (v := .ref q_1) (ty := .array (.object "PartnersBook$House")) (C := RX11) (T := TX11) (N := 11) hx hb hg inG11 tyX11 tyX11_ok nmX11 hown hK hP hD hS 0 rfl rfl 0 (by decide) (hg _ wd_114) (fun _ h9 => h9) rfl hin rfl (by decide +kernel) rfl rfl (Nat.le_of_ble_eq_true rfl) dX11_init_10 (fun H_4 locs hP hD hS => ?_)
  have hP : va_P D vwCl [(xa, .inr (11, [.ref q_1, .int 0, .null, .int 0, .null, .null, .null, .int 0, .null, .int 0, .int 0])), (q_1, .inl (cA_3, 8, .inr (.inr (.inr (.inr (fun _ => none))))))] H_4 := hP
  have hD : va_D A [(xa, .inr (11, [.ref q_1, .int 0, .null, .int 0, .null, .null, .null, .int 0, .null, .int 0, .int 0])), (q_1, .inl (cA_3, 8, .inr (.inr (.inr (.inr (fun _ => none))))))] := hD
  refine lv_aload_n hx hb dX11_init_13 rfl (lv_at hl 0 rfl) ?_
  refine lv_bipush (v := 40) hx hb dX11_init_14 (by decide) ?_
  refine va_newq (C := RX4) (N' := 40) hx hb hown (hg _ wd_115) (hN.ao RX4 61 rfl) hK hP hD hS hA (by decide) (by decide) (Nat.le_of_ble_eq_true rfl) (Nat.le_of_ble_eq_true rfl) (Nat.le_of_ble_eq_true rfl) dX11_init_16 (fun q_5 cA_7 H_6 hK hP hD hS => ?_)
  have hK : va_K D vwCl [(cA_3, .object RX2), (cA_7, .object RX4)] s := hK
  have hP : va_P D vwCl [(xa, .inr (11, [.ref q_1, .int 0, .null, .int 0, .null, .null, .null, .int 0, .null, .int 0, .int 0])), (q_1, .inl (cA_3, 8, .inr (.inr (.inr (.inr (fun _ => none)))))), (q_5, .inl (cA_7, 40, .inr (.inr (.inr (.inr (fun _ => none))))))] H_6 := hP
  have hD : va_D A [(xa, .inr (11, [.ref q_1, .int 0, .null, .int 0, .null, .null, .null, .int 0, .null, .int 0, .int 0])), (q_1, .inl (cA_3, 8, .inr (.inr (.inr (.inr (fun _ => none)))))), (q_5, .inl (cA_7, 40, .inr (.inr (.inr (.inr (fun _ => none))))))] := hD
  refine W.widen (k := 2) (n := 48) (Nat.le_of_ble_eq_true rfl) (Nat.le_of_ble_eq_true rfl) ?_
  refine va_putF (D := D) (ci := 11) (v := .ref q_5) (ty := .array (.object "PartnersBook$Partner")) (C := RX11) (T := TX11) (N := 11) hx hb hg inG11 tyX11 tyX11_ok nmX11 hown hK hP hD hS 0 rfl rfl 2 (by decide) (hg _ wd_116) (fun _ h9 => h9) rfl hin rfl (by decide +kernel) rfl rfl (Nat.le_of_ble_eq_true rfl) dX11_init_19 (fun H_8 locs hP hD hS => ?_)
  have hP : va_P D vwCl [(xa, .inr (11, [.ref q_1, .int 0, .ref q_5, .int 0, .null, .null, .null, .int 0, .null, .int 0, .int 0])), (q_1, .inl (cA_3, 8, .inr (.inr (.inr (.inr (fun _ => none)))))), (q_5, .inl (cA_7, 40, .inr (.inr (.inr (.inr (fun _ => none))))))] H_8 := hP
  have hD : va_D A [(xa, .inr (11, [.ref q_1, .int 0, .ref q_5, .int 0, .null, .null, .null, .int 0, .null, .int 0, .int 0])), (q_1, .inl (cA_3, 8, .inr (.inr (.inr (.inr (fun _ => none)))))), (q_5, .inl (cA_7, 40, .inr (.inr (.inr (.inr (fun _ => none))))))] := hD
  refine lv_aload_n hx hb dX11_init_22 rfl (lv_at hl 0 rfl) ?_
  refine va_new (ci := 7) (fs := [.null, .null, .null, .null, .null, .int 0]) (C := RX7) (T := TX7) (N := 6) hx hb hg inG7 tyX7 tyX7_ok hown (hg _ wd_117) (hg _ wd_118) (hg _ wd_119) hK hP hD hS hA rfl dfX7 (Nat.le_of_ble_eq_true rfl) (Nat.le_of_ble_eq_true rfl) dX11_init_23 (fun q_9 H_10 hP hD hS => ?_)
  have hP : va_P D vwCl [(xa, .inr (11, [.ref q_1, .int 0, .ref q_5, .int 0, .null, .null, .null, .int 0, .null, .int 0, .int 0])), (q_1, .inl (cA_3, 8, .inr (.inr (.inr (.inr (fun _ => none)))))), (q_5, .inl (cA_7, 40, .inr (.inr (.inr (.inr (fun _ => none)))))), (q_9, .inr (7, [.null, .null, .null, .null, .null, .int 0]))] H_10 := hP
  have hD : va_D A [(xa, .inr (11, [.ref q_1, .int 0, .ref q_5, .int 0, .null, .null, .null, .int 0, .null, .int 0, .int 0])), (q_1, .inl (cA_3, 8, .inr (.inr (.inr (.inr (fun _ => none)))))), (q_5, .inl (cA_7, 40, .inr (.inr (.inr (.inr (fun _ => none)))))), (q_9, .inr (7, [.null, .null, .null, .null, .null, .int 0]))] := hD
  refine W.widen (k := 3) (n := 54) (Nat.le_of_ble_eq_true rfl) (Nat.le_of_ble_eq_true rfl) ?_
  refine lv_dup hx hb dX11_init_26 rfl ?_
  have hPc := hP.sub (ws' := [(q_9, .inr (7, [.null, .null, .null, .null, .null, .int 0]))]) [3] rfl
  have hDc := hD.sub (ws' := [(q_9, .inr (7, [.null, .null, .null, .null, .null, .int 0]))]) [3] (by decide) rfl
  have hKc := hK.sub (tys' := []) [] rfl
  have hFc := va_free (wc := [(q_9, .inr (7, [.null, .null, .null, .null, .null, .int 0]))]) hD hS hA [3] rfl
  refine va_callv (va_runIN (As := []) (rest := [.ref q_9, .ref xa]) ⟨hx, hb, hml, hown, hg⟩ (k_Shares_init l D H_10.size q_9) ⟨va_cnB 0 hg (gB wd_120) rfl rfl rfl (hN _ (List.mem_of_getElem? (i := 0) rfl) : va_Nw (Cond.methodLinkNest RX11 23 yX7_init RX11) s) (hg _ wd_119) (by decide +kernel) ⟨(Nat.le_of_ble_eq_true rfl), (Nat.le_of_ble_eq_true rfl)⟩, rfl, hg _ wd_121⟩ ⟨Pr.blind, fun U hU hW => ⟨rfl, Pr.at hPc hKc hDc hN hU hW⟩⟩ rfl rfl hl.1 rfl (lv_room (Nat.le_of_ble_eq_true rfl)) dX11_init_27 ⟨(Nat.le_of_ble_eq_true rfl), (Nat.le_of_ble_eq_true rfl)⟩) hS (fun q _ h => hFc q h) hFc (fun u t H_11 locs ht hvm hw hB hz1 hk1 hS => ?_)
  obtain ⟨hP, hD⟩ := forget_join (wr := [(xa, .inr (11, [.ref q_1, .int 0, .ref q_5, .int 0, .null, .null, .null, .int 0, .null, .int 0, .int 0])), (q_1, .inl (cA_3, 8, .inr (.inr (.inr (.inr (fun _ => none)))))), (q_5, .inl (cA_7, 40, .inr (.inr (.inr (.inr (fun _ => none))))))]) hP hD [3] [0, 1, 2] rfl rfl (by decide) (by decide) hk1 hFc
  have hP : va_P D vwCl [(xa, .inr (11, [.ref q_1, .int 0, .ref q_5, .int 0, .null, .null, .null, .int 0, .null, .int 0, .int 0])), (q_1, .inl (cA_3, 8, .inr (.inr (.inr (.inr (fun _ => none)))))), (q_5, .inl (cA_7, 40, .inr (.inr (.inr (.inr (fun _ => none))))))] H_11 := hP
  have hD : va_D A [(xa, .inr (11, [.ref q_1, .int 0, .ref q_5, .int 0, .null, .null, .null, .int 0, .null, .int 0, .int 0])), (q_1, .inl (cA_3, 8, .inr (.inr (.inr (.inr (fun _ => none)))))), (q_5, .inl (cA_7, 40, .inr (.inr (.inr (.inr (fun _ => none))))))] := hD
  refine W.widen (k := 8) (n := 554) (Nat.le_of_ble_eq_true rfl) (Nat.le_of_ble_eq_true rfl) ?_
  refine va_putF (D := D) (ci := 11) (v := .ref q_9) (ty := .object "PartnersBook$Shares") (C := RX11) (T := TX11) (N := 11) hx hb hg inG11 tyX11 tyX11_ok nmX11 hown hK hP hD hS 0 rfl rfl 4 (by decide) (hg _ wd_122) (fun _ h9 => h9) rfl hin rfl (by decide +kernel) rfl rfl (Nat.le_of_ble_eq_true rfl) dX11_init_30 (fun H_13 locs hP hD hS => ?_)
  have hP : va_P D vwCl [(xa, .inr (11, [.ref q_1, .int 0, .ref q_5, .int 0, .ref q_9, .null, .null, .int 0, .null, .int 0, .int 0])), (q_1, .inl (cA_3, 8, .inr (.inr (.inr (.inr (fun _ => none)))))), (q_5, .inl (cA_7, 40, .inr (.inr (.inr (.inr (fun _ => none))))))] H_13 := hP
  have hD : va_D A [(xa, .inr (11, [.ref q_1, .int 0, .ref q_5, .int 0, .ref q_9, .null, .null, .int 0, .null, .int 0, .int 0])), (q_1, .inl (cA_3, 8, .inr (.inr (.inr (.inr (fun _ => none)))))), (q_5, .inl (cA_7, 40, .inr (.inr (.inr (.inr (fun _ => none))))))] := hD
  refine lv_aload_n hx hb dX11_init_33 rfl (lv_at hl 0 rfl) ?_
  refine va_new (ci := 5) (fs := [.null, .null, .int 0]) (C := RX5) (T := TX5) (N := 3) hx hb hg inG5 tyX5 tyX5_ok hown (hg _ wd_123) (hg _ wd_124) (hg _ wd_30) hK hP hD hS hA rfl dfX5 (Nat.le_of_ble_eq_true rfl) (Nat.le_of_ble_eq_true rfl) dX11_init_34 (fun q_14 H_15 hP hD hS => ?_)
  have hP : va_P D vwCl [(xa, .inr (11, [.ref q_1, .int 0, .ref q_5, .int 0, .ref q_9, .null, .null, .int 0, .null, .int 0, .int 0])), (q_1, .inl (cA_3, 8, .inr (.inr (.inr (.inr (fun _ => none)))))), (q_5, .inl (cA_7, 40, .inr (.inr (.inr (.inr (fun _ => none)))))), (q_14, .inr (5, [.null, .null, .int 0]))] H_15 := hP
  have hD : va_D A [(xa, .inr (11, [.ref q_1, .int 0, .ref q_5, .int 0, .ref q_9, .null, .null, .int 0, .null, .int 0, .int 0])), (q_1, .inl (cA_3, 8, .inr (.inr (.inr (.inr (fun _ => none)))))), (q_5, .inl (cA_7, 40, .inr (.inr (.inr (.inr (fun _ => none)))))), (q_14, .inr (5, [.null, .null, .int 0]))] := hD
  refine W.widen (k := 9) (n := 557) (Nat.le_of_ble_eq_true rfl) (Nat.le_of_ble_eq_true rfl) ?_
  refine lv_dup hx hb dX11_init_37 rfl ?_
  have hPc := hP.sub (ws' := [(q_14, .inr (5, [.null, .null, .int 0]))]) [3] rfl
  have hDc := hD.sub (ws' := [(q_14, .inr (5, [.null, .null, .int 0]))]) [3] (by decide) rfl
  have hKc := hK.sub (tys' := []) [] rfl
  have hFc := va_free (wc := [(q_14, .inr (5, [.null, .null, .int 0]))]) hD hS hA [3] rfl
  refine va_callv (va_runIN (As := []) (rest := [.ref q_14, .ref xa]) ⟨hx, hb, hml, hown, hg⟩ (k_Ring_init l D H_15.size q_14) ⟨va_cnB 0 hg (gB wd_125) rfl rfl rfl (hN _ (List.mem_of_getElem? (i := 1) rfl) : va_Nw (Cond.methodLinkNest RX11 30 yX5_init RX11) s) (hg _ wd_30) (by decide +kernel) ⟨(Nat.le_of_ble_eq_true rfl), (Nat.le_of_ble_eq_true rfl)⟩, rfl, hg _ wd_126⟩ ⟨Pr.blind, fun U hU hW => ⟨rfl, Pr.at hPc hKc hDc hN hU hW⟩⟩ rfl rfl hl.1 rfl (lv_room (Nat.le_of_ble_eq_true rfl)) dX11_init_38 ⟨(Nat.le_of_ble_eq_true rfl), (Nat.le_of_ble_eq_true rfl)⟩) hS (fun q _ h => hFc q h) hFc (fun u t H_16 locs ht hvm hw hB hz1 hk1 hS => ?_)
  obtain ⟨e0_18, e1_19, hP1, hK1, hD1⟩ := hB
  rw [ht] at hP1
  have hK1 := va_K.moved hvm.symm hK1
  obtain ⟨hP, hD⟩ := va_join (wr := [(xa, .inr (11, [.ref q_1, .int 0, .ref q_5, .int 0, .ref q_9, .null, .null, .int 0, .null, .int 0, .int 0])), (q_1, .inl (cA_3, 8, .inr (.inr (.inr (.inr (fun _ => none)))))), (q_5, .inl (cA_7, 40, .inr (.inr (.inr (.inr (fun _ => none))))))]) (w1 := [(q_14, .inr (5, [.ref e0_18, .ref e1_19, .int 0]))]) hP hD [3] [0, 1, 2] rfl rfl (by decide) (by decide) hk1 hFc hP1 hD1
  have hP : va_P D vwCl [(xa, .inr (11, [.ref q_1, .int 0, .ref q_5, .int 0, .ref q_9, .null, .null, .int 0, .null, .int 0, .int 0])), (q_1, .inl (cA_3, 8, .inr (.inr (.inr (.inr (fun _ => none)))))), (q_5, .inl (cA_7, 40, .inr (.inr (.inr (.inr (fun _ => none)))))), (q_14, .inr (5, [.ref e0_18, .ref e1_19, .int 0]))] H_16 := hP
  have hD : va_D A [(xa, .inr (11, [.ref q_1, .int 0, .ref q_5, .int 0, .ref q_9, .null, .null, .int 0, .null, .int 0, .int 0])), (q_1, .inl (cA_3, 8, .inr (.inr (.inr (.inr (fun _ => none)))))), (q_5, .inl (cA_7, 40, .inr (.inr (.inr (.inr (fun _ => none)))))), (q_14, .inr (5, [.ref e0_18, .ref e1_19, .int 0]))] := hD
  refine W.widen (k := 11) (n := 573) (Nat.le_of_ble_eq_true rfl) (Nat.le_of_ble_eq_true rfl) ?_
  refine va_putF (D := D) (ci := 11) (v := .ref q_14) (ty := .object "PartnersBook$Ring") (C := RX11) (T := TX11) (N := 11) hx hb hg inG11 tyX11 tyX11_ok nmX11 hown hK hP hD hS 0 rfl rfl 5 (by decide) (hg _ wd_26) (fun _ h9 => h9) rfl hin rfl (by decide +kernel) rfl rfl (Nat.le_of_ble_eq_true rfl) dX11_init_41 (fun H_20 locs hP hD hS => ?_)
  have hP : va_P D vwCl [(xa, .inr (11, [.ref q_1, .int 0, .ref q_5, .int 0, .ref q_9, .ref q_14, .null, .int 0, .null, .int 0, .int 0])), (q_1, .inl (cA_3, 8, .inr (.inr (.inr (.inr (fun _ => none)))))), (q_5, .inl (cA_7, 40, .inr (.inr (.inr (.inr (fun _ => none)))))), (q_14, .inr (5, [.ref e0_18, .ref e1_19, .int 0]))] H_20 := hP
  have hD : va_D A [(xa, .inr (11, [.ref q_1, .int 0, .ref q_5, .int 0, .ref q_9, .ref q_14, .null, .int 0, .null, .int 0, .int 0])), (q_1, .inl (cA_3, 8, .inr (.inr (.inr (.inr (fun _ => none)))))), (q_5, .inl (cA_7, 40, .inr (.inr (.inr (.inr (fun _ => none)))))), (q_14, .inr (5, [.ref e0_18, .ref e1_19, .int 0]))] := hD
  refine lv_aload_n hx hb dX11_init_44 rfl (lv_at hl 0 rfl) ?_
  refine lv_bipush (v := 24) hx hb dX11_init_45 (by decide) ?_
  refine va_newa (atype := .int) (ty := .int) (a0 := (24, .inl (fun _ => 0))) hx hb (hg _ wd_53) rfl hK hP hD hS hA (fun cA => rfl) (by decide) (by decide) (Nat.le_of_ble_eq_true rfl) (Nat.le_of_ble_eq_true rfl) (Nat.le_of_ble_eq_true rfl) dX11_init_47 (fun q_21 cA_23 H_22 hK hP hD hS => ?_)
  have hK : va_K D vwCl [(cA_3, .object RX2), (cA_7, .object RX4), (cA_23, .int)] s := hK
  have hP : va_P D vwCl [(xa, .inr (11, [.ref q_1, .int 0, .ref q_5, .int 0, .ref q_9, .ref q_14, .null, .int 0, .null, .int 0, .int 0])), (q_1, .inl (cA_3, 8, .inr (.inr (.inr (.inr (fun _ => none)))))), (q_5, .inl (cA_7, 40, .inr (.inr (.inr (.inr (fun _ => none)))))), (q_14, .inr (5, [.ref e0_18, .ref e1_19, .int 0])), (q_21, .inl (cA_23, 24, .inl (fun _ => 0)))] H_22 := hP
  have hD : va_D A [(xa, .inr (11, [.ref q_1, .int 0, .ref q_5, .int 0, .ref q_9, .ref q_14, .null, .int 0, .null, .int 0, .int 0])), (q_1, .inl (cA_3, 8, .inr (.inr (.inr (.inr (fun _ => none)))))), (q_5, .inl (cA_7, 40, .inr (.inr (.inr (.inr (fun _ => none)))))), (q_14, .inr (5, [.ref e0_18, .ref e1_19, .int 0])), (q_21, .inl (cA_23, 24, .inl (fun _ => 0)))] := hD
  refine W.widen (k := 12) (n := 597) (Nat.le_of_ble_eq_true rfl) (Nat.le_of_ble_eq_true rfl) ?_
  refine va_putF (D := D) (ci := 11) (v := .ref q_21) (ty := .array .int) (C := RX11) (T := TX11) (N := 11) hx hb hg inG11 tyX11 tyX11_ok nmX11 hown hK hP hD hS 0 rfl rfl 6 (by decide) (hg _ wd_36) (fun _ h9 => h9) rfl hin rfl (by decide +kernel) rfl rfl (Nat.le_of_ble_eq_true rfl) dX11_init_49 (fun H_24 locs hP hD hS => ?_)
  have hP : va_P D vwCl [(xa, .inr (11, [.ref q_1, .int 0, .ref q_5, .int 0, .ref q_9, .ref q_14, .ref q_21, .int 0, .null, .int 0, .int 0])), (q_1, .inl (cA_3, 8, .inr (.inr (.inr (.inr (fun _ => none)))))), (q_5, .inl (cA_7, 40, .inr (.inr (.inr (.inr (fun _ => none)))))), (q_14, .inr (5, [.ref e0_18, .ref e1_19, .int 0])), (q_21, .inl (cA_23, 24, .inl (fun _ => 0)))] H_24 := hP
  have hD : va_D A [(xa, .inr (11, [.ref q_1, .int 0, .ref q_5, .int 0, .ref q_9, .ref q_14, .ref q_21, .int 0, .null, .int 0, .int 0])), (q_1, .inl (cA_3, 8, .inr (.inr (.inr (.inr (fun _ => none)))))), (q_5, .inl (cA_7, 40, .inr (.inr (.inr (.inr (fun _ => none)))))), (q_14, .inr (5, [.ref e0_18, .ref e1_19, .int 0])), (q_21, .inl (cA_23, 24, .inl (fun _ => 0)))] := hD
  refine lv_aload_n hx hb dX11_init_52 rfl (lv_at hl 0 rfl) ?_
  refine lv_bipush (v := 25) hx hb dX11_init_53 (by decide) ?_
  refine va_newa (atype := .long) (ty := .long) (a0 := (25, .inr (.inl (fun _ => 0)))) hx hb (hg _ wd_47) rfl hK hP hD hS hA (fun cA => rfl) (by decide) (by decide) (Nat.le_of_ble_eq_true rfl) (Nat.le_of_ble_eq_true rfl) (Nat.le_of_ble_eq_true rfl) dX11_init_55 (fun q_25 cA_27 H_26 hK hP hD hS => ?_)
  have hK : va_K D vwCl [(cA_3, .object RX2), (cA_7, .object RX4), (cA_23, .int), (cA_27, .long)] s := hK
  have hP : va_P D vwCl [(xa, .inr (11, [.ref q_1, .int 0, .ref q_5, .int 0, .ref q_9, .ref q_14, .ref q_21, .int 0, .null, .int 0, .int 0])), (q_1, .inl (cA_3, 8, .inr (.inr (.inr (.inr (fun _ => none)))))), (q_5, .inl (cA_7, 40, .inr (.inr (.inr (.inr (fun _ => none)))))), (q_14, .inr (5, [.ref e0_18, .ref e1_19, .int 0])), (q_21, .inl (cA_23, 24, .inl (fun _ => 0))), (q_25, .inl (cA_27, 25, .inr (.inl (fun _ => 0))))] H_26 := hP
  have hD : va_D A [(xa, .inr (11, [.ref q_1, .int 0, .ref q_5, .int 0, .ref q_9, .ref q_14, .ref q_21, .int 0, .null, .int 0, .int 0])), (q_1, .inl (cA_3, 8, .inr (.inr (.inr (.inr (fun _ => none)))))), (q_5, .inl (cA_7, 40, .inr (.inr (.inr (.inr (fun _ => none)))))), (q_14, .inr (5, [.ref e0_18, .ref e1_19, .int 0])), (q_21, .inl (cA_23, 24, .inl (fun _ => 0))), (q_25, .inl (cA_27, 25, .inr (.inl (fun _ => 0))))] := hD
  refine W.widen (k := 13) (n := 622) (Nat.le_of_ble_eq_true rfl) (Nat.le_of_ble_eq_true rfl) ?_
  refine va_putF (D := D) (ci := 11) (v := .ref q_25) (ty := .array .long) (C := RX11) (T := TX11) (N := 11) hx hb hg inG11 tyX11 tyX11_ok nmX11 hown hK hP hD hS 0 rfl rfl 8 (by decide) (hg _ wd_38) (fun _ h9 => h9) rfl hin rfl (by decide +kernel) rfl rfl (Nat.le_of_ble_eq_true rfl) dX11_init_57 (fun H_28 locs hP hD hS => ?_)
  have hP : va_P D vwCl [(xa, .inr (11, [.ref q_1, .int 0, .ref q_5, .int 0, .ref q_9, .ref q_14, .ref q_21, .int 0, .ref q_25, .int 0, .int 0])), (q_1, .inl (cA_3, 8, .inr (.inr (.inr (.inr (fun _ => none)))))), (q_5, .inl (cA_7, 40, .inr (.inr (.inr (.inr (fun _ => none)))))), (q_14, .inr (5, [.ref e0_18, .ref e1_19, .int 0])), (q_21, .inl (cA_23, 24, .inl (fun _ => 0))), (q_25, .inl (cA_27, 25, .inr (.inl (fun _ => 0))))] H_28 := hP
  have hD : va_D A [(xa, .inr (11, [.ref q_1, .int 0, .ref q_5, .int 0, .ref q_9, .ref q_14, .ref q_21, .int 0, .ref q_25, .int 0, .int 0])), (q_1, .inl (cA_3, 8, .inr (.inr (.inr (.inr (fun _ => none)))))), (q_5, .inl (cA_7, 40, .inr (.inr (.inr (.inr (fun _ => none)))))), (q_14, .inr (5, [.ref e0_18, .ref e1_19, .int 0])), (q_21, .inl (cA_23, 24, .inl (fun _ => 0))), (q_25, .inl (cA_27, 25, .inr (.inl (fun _ => 0))))] := hD
  refine lv_aload_n hx hb dX11_init_60 rfl (lv_at hl 0 rfl) ?_
  refine lv_iconst (v := (-1)) hx hb dX11_init_61 (by decide) ?_
  refine va_put (D := D) (ci := 11) (v := .int (-1)) (ty := .int) (C := RX11) (T := TX11) (N := 11) hx hb hg inG11 tyX11 tyX11_ok nmX11 hown hK hP hD hS 0 rfl rfl 10 (by decide) (hg _ wd_1) (fun _ h9 => h9) rfl (by decide +kernel) rfl rfl (Nat.le_of_ble_eq_true rfl) dX11_init_62 (fun H_29 locs hP hD hS => ?_)
  have hP : va_P D vwCl [(xa, .inr (11, [.ref q_1, .int 0, .ref q_5, .int 0, .ref q_9, .ref q_14, .ref q_21, .int 0, .ref q_25, .int 0, .int (-1)])), (q_1, .inl (cA_3, 8, .inr (.inr (.inr (.inr (fun _ => none)))))), (q_5, .inl (cA_7, 40, .inr (.inr (.inr (.inr (fun _ => none)))))), (q_14, .inr (5, [.ref e0_18, .ref e1_19, .int 0])), (q_21, .inl (cA_23, 24, .inl (fun _ => 0))), (q_25, .inl (cA_27, 25, .inr (.inl (fun _ => 0))))] H_29 := hP
  have hD : va_D A [(xa, .inr (11, [.ref q_1, .int 0, .ref q_5, .int 0, .ref q_9, .ref q_14, .ref q_21, .int 0, .ref q_25, .int 0, .int (-1)])), (q_1, .inl (cA_3, 8, .inr (.inr (.inr (.inr (fun _ => none)))))), (q_5, .inl (cA_7, 40, .inr (.inr (.inr (.inr (fun _ => none)))))), (q_14, .inr (5, [.ref e0_18, .ref e1_19, .int 0])), (q_21, .inl (cA_23, 24, .inl (fun _ => 0))), (q_25, .inl (cA_27, 25, .inr (.inl (fun _ => 0))))] := hD
  have hP9 := hP.sub (ws' := [(xa, .inr (11, [.ref q_1, .int 0, .ref q_5, .int 0, .ref q_9, .ref q_14, .ref q_21, .int 0, .ref q_25, .int 0, .int (-1)])), (q_1, .inl (cA_3, 8, .inr (.inr (.inr (.inr (fun _ => none)))))), (q_5, .inl (cA_7, 40, .inr (.inr (.inr (.inr (fun _ => none)))))), (q_14, .inr (5, [.ref e0_18, .ref e1_19, .int 0])), (q_21, .inl (cA_23, 24, .inl (fun _ => 0))), (q_25, .inl (cA_27, 25, .inr (.inl (fun _ => 0))))]) [0, 1, 2, 3, 4, 5] rfl
  have hD9 := hD.sub (ws' := [(xa, .inr (11, [.ref q_1, .int 0, .ref q_5, .int 0, .ref q_9, .ref q_14, .ref q_21, .int 0, .ref q_25, .int 0, .int (-1)])), (q_1, .inl (cA_3, 8, .inr (.inr (.inr (.inr (fun _ => none)))))), (q_5, .inl (cA_7, 40, .inr (.inr (.inr (.inr (fun _ => none)))))), (q_14, .inr (5, [.ref e0_18, .ref e1_19, .int 0])), (q_21, .inl (cA_23, 24, .inl (fun _ => 0))), (q_25, .inl (cA_27, 25, .inr (.inl (fun _ => 0))))]) [0, 1, 2, 3, 4, 5] (by decide) rfl
  have hK9 := hK.sub (tys' := [(cA_3, .object RX2), (cA_7, .object RX4), (cA_23, .int), (cA_27, .long)]) [0, 1, 2, 3] rfl
  exact W.vret hx hb hr (fun t ht hW => ⟨⟨(), rfl, trivial, ⟨q_1, q_5, q_9, q_14, q_21, q_25, e0_18, e1_19, cA_3, cA_7, cA_23, cA_27, by rw [ht]; exact hP9, va_K.moved hW.alike hK9, hD9⟩⟩, hS.F ht⟩) hS.2.2 dX11_init_65
set_option maxHeartbeats 4000000 in
set_option maxRecDepth 100000 in
theorem k_house (l : Launch) (D : va_G) (sz : Nat) (xa : Nat) (x0 : Nat) (x2 : Nat) (x4 : Nat) (x5 : Nat) (x6 : Nat) (x7 : Int32) (x8 : Nat) (x9 : Int32) (x10 : Int32) (k1 : Int32) (ca : ClassId) : Met l yX11_house (wsM yX11_house cX11_house 2 (some .int)) ({ frames := 3, cells := 21, slots := 2800, locals := 58 }) (va_Pc [.ref xa, .int k1] (Pr D [(xa, .inr (11, [.ref x0, .int 0, .ref x2, .int 0, .ref x4, .ref x5, .ref x6, .int x7, .ref x8, .int x9, .int x10])), (x0, .inl (ca, 8, .inr (.inr (.inr (.inr (fun _ => none))))))] [(ca, .object RX2)] sz)) (va_Qi (fun (r : Int32) (_ : Unit) => r = ansHouse k1) (fun _ _ => True) (va_A [(xa, .inr (11, [.ref x0, .int 0, .ref x2, .int 0, .ref x4, .ref x5, .ref x6, .int x7, .ref x8, .int x9, .int x10])), (x0, .inl (ca, 8, .inr (.inr (.inr (.inr (fun _ => none))))))] sz)) 21 2800 (va_A [(xa, .inr (11, [.ref x0, .int 0, .ref x2, .int 0, .ref x4, .ref x5, .ref x6, .int x7, .ref x8, .int x9, .int x10])), (x0, .inl (ca, 8, .inr (.inr (.inr (.inr (fun _ => none))))))] sz) := by
  refine Met.ofW (cc := cX11_house) (maxL := 2) (ret := (some .int)) (by decide) rfl ?_
  intro p e s m args below meth c s₁ B hml hv
  obtain ⟨rfl, hsz, hP, hK, hD0, hN⟩ := hv
  have hx := B.exec
  have hb := B.bytes
  have hr := B.returns
  have hts := atoms_spec (ws := (wsM yX11_house cX11_house 2 (some .int))) B.pre
  have hg : ∀ w ∈ lw_good, w.before _ s = true := fun w h => hts w (List.mem_cons_of_mem _ h)
  have hown : s.vm.findClass RX11 = some m.cls := findClass_of_methodNamed B.named
  have hlocks := B.notSynchronized
  subst hsz
  have hD := hD0.self (sz := s.heap.size)
  generalize hAe : va_A [(xa, .inr (11, [.ref x0, .int 0, .ref x2, .int 0, .ref x4, .ref x5, .ref x6, .int x7, .ref x8, .int x9, .int x10])), (x0, .inl (ca, 8, .inr (.inr (.inr (.inr (fun _ => none))))))] s.heap.size = A at hD ⊢
  have hA : ∀ q : Nat, s.heap.size ≤ q → A q := fun q h => by rw [← hAe]; exact Or.inr h
  have hS : va_S A s.heap s.heap [] := va_S.rf
  have hP : va_P D vwCl [(xa, .inr (11, [.ref x0, .int 0, .ref x2, .int 0, .ref x4, .ref x5, .ref x6, .int x7, .ref x8, .int x9, .int x10])), (x0, .inl (ca, 8, .inr (.inr (.inr (.inr (fun _ => none))))))] s.heap := hP
  have hl := lv_entry ([.ref xa, .int k1]) (n := 2) (Nat.le_of_ble_eq_true rfl)
  rw [lg_entry_eq]
  generalize (lg_sl ([.ref xa, .int k1]) ++ List.replicate (2 - (lg_sl ([.ref xa, .int k1])).length) Slot.unset).toArray = ls at hl ⊢
  have hl : lv_has ls 2 [(0, .ref xa), (1, .int k1)] := hl
  refine lv_iload_n hx hb dX11_house_0 rfl (lv_at hl 1 rfl) ?_
  refine lv_if_lt (tgt := 11) hx hb dX11_house_1 (by decide) (fun c_1 => ?_) (fun c_1 => ?_)
  · refine lv_aload_n hx hb dX11_house_11 rfl (lv_at hl 0 rfl) ?_
    refine lv_iconst (v := 2) hx hb dX11_house_12 (by decide) ?_
    have hPc := hP.sub (ws' := [(xa, .inr (11, [.ref x0, .int 0, .ref x2, .int 0, .ref x4, .ref x5, .ref x6, .int x7, .ref x8, .int x9, .int x10]))]) [0] rfl
    have hDc := hD.sub (ws' := [(xa, .inr (11, [.ref x0, .int 0, .ref x2, .int 0, .ref x4, .ref x5, .ref x6, .int x7, .ref x8, .int x9, .int x10]))]) [0] (by decide) rfl
    have hKc := hK.sub (tys' := []) [] rfl
    have hFc := va_free (wc := [(xa, .inr (11, [.ref x0, .int 0, .ref x2, .int 0, .ref x4, .ref x5, .ref x6, .int x7, .ref x8, .int x9, .int x10]))]) hD hS hA [0] rfl
    refine va_calli (va_runV (As := [.int 2]) (rest := []) ⟨hx, hb, hml, hown, hg⟩ (k_refuse l D s.heap.size xa x0 0 x2 0 x4 x5 x6 x7 x8 x9 x10 2) (cwV 1 hg (gV wd_14 wd_15 wd_16 wd_5 wd_17) rfl rfl rfl (by decide +kernel) ⟨(Nat.le_of_ble_eq_true rfl), (Nat.le_of_ble_eq_true rfl)⟩) ⟨Pr.blind, va_recv hKc hPc (ci := 11) (q0 := 0) rfl rfl, fun U hU hW => ⟨rfl, Pr.at hPc hKc hDc hN hU hW⟩⟩ rfl rfl hl.1 rfl (lv_room (Nat.le_of_ble_eq_true rfl)) dX11_house_13 ⟨(Nat.le_of_ble_eq_true rfl), (Nat.le_of_ble_eq_true rfl)⟩) hS (fun q _ h => hFc q h) hFc (fun r_3 u t H_2 locs ht hvm hw hB hz1 hk1 hS => ?_)
    obtain ⟨hP1, hK1, hD1⟩ := hB
    rw [ht] at hP1
    have hK1 := va_K.moved hvm.symm hK1
    obtain ⟨hP, hD⟩ := va_join (wr := [(x0, .inl (ca, 8, .inr (.inr (.inr (.inr (fun _ => none))))))]) (w1 := [(xa, .inr (11, [.ref x0, .int 0, .ref x2, .int 0, .ref x4, .ref x5, .ref x6, .int x7, .ref x8, .int 2, .int (-1)]))]) hP hD [0] [1] rfl rfl (by decide) (by decide) hk1 hFc hP1 hD1
    have hP : va_P D vwCl [(x0, .inl (ca, 8, .inr (.inr (.inr (.inr (fun _ => none)))))), (xa, .inr (11, [.ref x0, .int 0, .ref x2, .int 0, .ref x4, .ref x5, .ref x6, .int x7, .ref x8, .int 2, .int (-1)]))] H_2 := hP
    have hD : va_D A [(x0, .inl (ca, 8, .inr (.inr (.inr (.inr (fun _ => none)))))), (xa, .inr (11, [.ref x0, .int 0, .ref x2, .int 0, .ref x4, .ref x5, .ref x6, .int x7, .ref x8, .int 2, .int (-1)]))] := hD
    subst hw
    refine W.widen (k := 21) (n := 2800) (Nat.le_of_ble_eq_true rfl) (Nat.le_of_ble_eq_true rfl) ?_
    exact W.iret (v := (-1)) hx hb hr (fun t ht hW => ⟨⟨(-1), (), rfl, by simp [ansHouse, c_1], trivial⟩, hS.F ht⟩) hS.2.2 dX11_house_16
  · refine lv_iload_n hx hb dX11_house_4 rfl (lv_at hl 1 rfl) ?_
    refine lv_sipush (v := 900) hx hb dX11_house_5 (by decide) ?_
    refine lv_icmp_le (tgt := 17) hx hb dX11_house_8 (by decide) (fun c_4 => ?_) (fun c_4 => ?_)
    · refine lv_aload_n hx hb dX11_house_17 rfl (lv_at hl 0 rfl) ?_
      refine va_get (D := D) (ci := 11) (v := .int 0) (C := RX11) (T := TX11) (N := 11) hx hb hg inG11 hown hK hP 0 rfl rfl 1 (by decide) (hg _ wd_7) (fun _ h9 => h9) rfl dX11_house_18 ?_
      refine lv_bipush (v := 8) hx hb dX11_house_21 (by decide) ?_
      refine lv_icmp_lt (tgt := 33) hx hb dX11_house_23 (by decide) (fun _ => ?_) (fun c_5 => absurd c_5 (by decide))
      refine lv_aload_n hx hb dX11_house_33 rfl (lv_at hl 0 rfl) ?_
      refine va_get (D := D) (ci := 11) (v := .ref x0) (C := RX11) (T := TX11) (N := 11) hx hb hg inG11 hown hK hP 0 rfl rfl 0 (by decide) (hg _ wd_114) (fun _ h9 => h9) rfl dX11_house_34 ?_
      refine lv_aload_n hx hb dX11_house_37 rfl (lv_at hl 0 rfl) ?_
      refine va_get (D := D) (ci := 11) (v := .int 0) (C := RX11) (T := TX11) (N := 11) hx hb hg inG11 hown hK hP 0 rfl rfl 1 (by decide) (hg _ wd_7) (fun _ h9 => h9) rfl dX11_house_38 ?_
      refine va_new (ci := 2) (fs := [.int 0, .int 0, .int 0, .null, .int 0, .int 0, .null, .null, .null, .int 0, .null, .int 0, .null, .null, .long 0, .int 0, .null, .null, .null, .null]) (C := RX2) (T := TX2) (N := 20) hx hb hg inG2 tyX2 tyX2_ok hown (hg _ wd_113) (hg _ wd_127) (hg _ wd_128) hK hP hD hS hA rfl dfX2 (Nat.le_of_ble_eq_true rfl) (Nat.le_of_ble_eq_true rfl) dX11_house_41 (fun q_6 H_7 hP hD hS => ?_)
      have hP : va_P D vwCl [(xa, .inr (11, [.ref x0, .int 0, .ref x2, .int 0, .ref x4, .ref x5, .ref x6, .int x7, .ref x8, .int x9, .int x10])), (x0, .inl (ca, 8, .inr (.inr (.inr (.inr (fun _ => none)))))), (q_6, .inr (2, [.int 0, .int 0, .int 0, .null, .int 0, .int 0, .null, .null, .null, .int 0, .null, .int 0, .null, .null, .long 0, .int 0, .null, .null, .null, .null]))] H_7 := hP
      have hD : va_D A [(xa, .inr (11, [.ref x0, .int 0, .ref x2, .int 0, .ref x4, .ref x5, .ref x6, .int x7, .ref x8, .int x9, .int x10])), (x0, .inl (ca, 8, .inr (.inr (.inr (.inr (fun _ => none)))))), (q_6, .inr (2, [.int 0, .int 0, .int 0, .null, .int 0, .int 0, .null, .null, .null, .int 0, .null, .int 0, .null, .null, .long 0, .int 0, .null, .null, .null, .null]))] := hD
      refine W.widen (k := 1) (n := 20) (Nat.le_of_ble_eq_true rfl) (Nat.le_of_ble_eq_true rfl) ?_
      refine lv_dup hx hb dX11_house_44 rfl ?_
      refine lv_aload_n hx hb dX11_house_45 rfl (lv_at hl 0 rfl) ?_
      refine va_get (D := D) (ci := 11) (v := .int 0) (C := RX11) (T := TX11) (N := 11) hx hb hg inG11 hown hK hP 0 rfl rfl 1 (by decide) (hg _ wd_7) (fun _ h9 => h9) rfl dX11_house_46 ?_
      refine lv_iload_n hx hb dX11_house_49 rfl (lv_at hl 1 rfl) ?_
      refine lv_aload_n hx hb dX11_house_50 rfl (lv_at hl 0 rfl) ?_
      refine va_get (D := D) (ci := 11) (v := .ref x4) (C := RX11) (T := TX11) (N := 11) hx hb hg inG11 hown hK hP 0 rfl rfl 4 (by decide) (hg _ wd_122) (fun _ h9 => h9) rfl dX11_house_51 ?_
      have hPc := hP.sub (ws' := [(q_6, .inr (2, [.int 0, .int 0, .int 0, .null, .int 0, .int 0, .null, .null, .null, .int 0, .null, .int 0, .null, .null, .long 0, .int 0, .null, .null, .null, .null]))]) [2] rfl
      have hDc := hD.sub (ws' := [(q_6, .inr (2, [.int 0, .int 0, .int 0, .null, .int 0, .int 0, .null, .null, .null, .int 0, .null, .int 0, .null, .null, .long 0, .int 0, .null, .null, .null, .null]))]) [2] (by decide) rfl
      have hKc := hK.sub (tys' := []) [] rfl
      have hFc := va_free (wc := [(q_6, .inr (2, [.int 0, .int 0, .int 0, .null, .int 0, .int 0, .null, .null, .null, .int 0, .null, .int 0, .null, .null, .long 0, .int 0, .null, .null, .null, .null]))]) hD hS hA [2] rfl
      refine va_callv (va_runI (As := [.int 0, .int k1, .ref x4]) (rest := [.ref q_6, .int 0, .ref x0]) ⟨hx, hb, hml, hown, hg⟩ (k_House_init l D H_7.size q_6 0 k1 x4) (cwI 3 hg (gB wd_129) rfl rfl rfl (hg _ wd_128) (hg _ wd_130) (hg _ wd_131) rfl (by decide +kernel) ⟨(Nat.le_of_ble_eq_true rfl), (Nat.le_of_ble_eq_true rfl)⟩) ⟨Pr.blind, fun U hU hW => ⟨rfl, Pr.at hPc hKc hDc hN hU hW⟩⟩ rfl rfl hl.1 rfl (lv_room (Nat.le_of_ble_eq_true rfl)) dX11_house_54 ⟨(Nat.le_of_ble_eq_true rfl), (Nat.le_of_ble_eq_true rfl)⟩) hS (fun q _ h => hFc q h) hFc (fun u t H_8 locs ht hvm hw hB hz1 hk1 hS => ?_)
      obtain ⟨e0_10, e1_11, e2_12, e3_13, e4_14, e5_15, e6_16, e7_17, e8_18, e9_19, e10_20, e11_21, e12_22, e13_23, e14_24, e15_25, e16_26, e17_27, e18_28, e19_29, hP1, hK1, hD1⟩ := hB
      rw [ht] at hP1
      have hK1 := va_K.moved hvm.symm hK1
      obtain ⟨hP, hD⟩ := va_join (wr := [(xa, .inr (11, [.ref x0, .int 0, .ref x2, .int 0, .ref x4, .ref x5, .ref x6, .int x7, .ref x8, .int x9, .int x10])), (x0, .inl (ca, 8, .inr (.inr (.inr (.inr (fun _ => none))))))]) (w1 := [(q_6, .inr (2, [.int e0_10, .int e1_11, .int e2_12, .ref e3_13, .int e4_14, .int e5_15, .ref e6_16, .ref e7_17, .ref e8_18, .int e9_19, .ref e10_20, .int e11_21, .ref e12_22, .ref e13_23, .long e14_24, .int e15_25, .ref e16_26, .ref e17_27, .ref e18_28, .ref e19_29]))]) hP hD [2] [0, 1] rfl rfl (by decide) (by decide) hk1 hFc hP1 hD1
      have hP : va_P D vwCl [(xa, .inr (11, [.ref x0, .int 0, .ref x2, .int 0, .ref x4, .ref x5, .ref x6, .int x7, .ref x8, .int x9, .int x10])), (x0, .inl (ca, 8, .inr (.inr (.inr (.inr (fun _ => none)))))), (q_6, .inr (2, [.int e0_10, .int e1_11, .int e2_12, .ref e3_13, .int e4_14, .int e5_15, .ref e6_16, .ref e7_17, .ref e8_18, .int e9_19, .ref e10_20, .int e11_21, .ref e12_22, .ref e13_23, .long e14_24, .int e15_25, .ref e16_26, .ref e17_27, .ref e18_28, .ref e19_29]))] H_8 := hP
      have hD : va_D A [(xa, .inr (11, [.ref x0, .int 0, .ref x2, .int 0, .ref x4, .ref x5, .ref x6, .int x7, .ref x8, .int x9, .int x10])), (x0, .inl (ca, 8, .inr (.inr (.inr (.inr (fun _ => none)))))), (q_6, .inr (2, [.int e0_10, .int e1_11, .int e2_12, .ref e3_13, .int e4_14, .int e5_15, .ref e6_16, .ref e7_17, .ref e8_18, .int e9_19, .ref e10_20, .int e11_21, .ref e12_22, .ref e13_23, .long e14_24, .int e15_25, .ref e16_26, .ref e17_27, .ref e18_28, .ref e19_29]))] := hD
      refine W.widen (k := 21) (n := 2800) (Nat.le_of_ble_eq_true rfl) (Nat.le_of_ble_eq_true rfl) ?_
      refine va_astq (r := (RX2, TX2, 20)) hx hb hK hP hD hS 1 0 2 2 rfl rfl rfl rfl (by unfold vp_in; decide) dX11_house_57 (fun H_30 locs hP hD hS => ?_)
      have hP : va_P D vwCl [(xa, .inr (11, [.ref x0, .int 0, .ref x2, .int 0, .ref x4, .ref x5, .ref x6, .int x7, .ref x8, .int x9, .int x10])), (x0, .inl (ca, 8, .inr (.inr (.inr (.inr (va_up (fun _ => none) (0 : Int32).toNatClampNeg (some q_6))))))), (q_6, .inr (2, [.int e0_10, .int e1_11, .int e2_12, .ref e3_13, .int e4_14, .int e5_15, .ref e6_16, .ref e7_17, .ref e8_18, .int e9_19, .ref e10_20, .int e11_21, .ref e12_22, .ref e13_23, .long e14_24, .int e15_25, .ref e16_26, .ref e17_27, .ref e18_28, .ref e19_29]))] H_30 := hP
      have hD : va_D A [(xa, .inr (11, [.ref x0, .int 0, .ref x2, .int 0, .ref x4, .ref x5, .ref x6, .int x7, .ref x8, .int x9, .int x10])), (x0, .inl (ca, 8, .inr (.inr (.inr (.inr (va_up (fun _ => none) (0 : Int32).toNatClampNeg (some q_6))))))), (q_6, .inr (2, [.int e0_10, .int e1_11, .int e2_12, .ref e3_13, .int e4_14, .int e5_15, .ref e6_16, .ref e7_17, .ref e8_18, .int e9_19, .ref e10_20, .int e11_21, .ref e12_22, .ref e13_23, .long e14_24, .int e15_25, .ref e16_26, .ref e17_27, .ref e18_28, .ref e19_29]))] := hD
      refine lv_aload_n hx hb dX11_house_58 rfl (lv_at hl 0 rfl) ?_
      refine lv_dup hx hb dX11_house_59 rfl ?_
      refine va_get (D := D) (ci := 11) (v := .int 0) (C := RX11) (T := TX11) (N := 11) hx hb hg inG11 hown hK hP 0 rfl rfl 1 (by decide) (hg _ wd_7) (fun _ h9 => h9) rfl dX11_house_60 ?_
      refine lv_iconst (v := 1) hx hb dX11_house_63 (by decide) ?_
      refine lv_iadd hx hb dX11_house_64 ?_
      refine lv_topi (fun f_31 ef_31 => ?_)
      obtain rfl : f_31 = 1 := by rw [ef_31]; decide
      refine va_put (D := D) (ci := 11) (v := .int 1) (ty := .int) (C := RX11) (T := TX11) (N := 11) hx hb hg inG11 tyX11 tyX11_ok nmX11 hown hK hP hD hS 0 rfl rfl 1 (by decide) (hg _ wd_7) (fun _ h9 => h9) rfl (by decide +kernel) rfl rfl (Nat.le_of_ble_eq_true rfl) dX11_house_65 (fun H_32 locs hP hD hS => ?_)
      have hP : va_P D vwCl [(xa, .inr (11, [.ref x0, .int 1, .ref x2, .int 0, .ref x4, .ref x5, .ref x6, .int x7, .ref x8, .int x9, .int x10])), (x0, .inl (ca, 8, .inr (.inr (.inr (.inr (va_up (fun _ => none) (0 : Int32).toNatClampNeg (some q_6))))))), (q_6, .inr (2, [.int e0_10, .int e1_11, .int e2_12, .ref e3_13, .int e4_14, .int e5_15, .ref e6_16, .ref e7_17, .ref e8_18, .int e9_19, .ref e10_20, .int e11_21, .ref e12_22, .ref e13_23, .long e14_24, .int e15_25, .ref e16_26, .ref e17_27, .ref e18_28, .ref e19_29]))] H_32 := hP
      have hD : va_D A [(xa, .inr (11, [.ref x0, .int 1, .ref x2, .int 0, .ref x4, .ref x5, .ref x6, .int x7, .ref x8, .int x9, .int x10])), (x0, .inl (ca, 8, .inr (.inr (.inr (.inr (va_up (fun _ => none) (0 : Int32).toNatClampNeg (some q_6))))))), (q_6, .inr (2, [.int e0_10, .int e1_11, .int e2_12, .ref e3_13, .int e4_14, .int e5_15, .ref e6_16, .ref e7_17, .ref e8_18, .int e9_19, .ref e10_20, .int e11_21, .ref e12_22, .ref e13_23, .long e14_24, .int e15_25, .ref e16_26, .ref e17_27, .ref e18_28, .ref e19_29]))] := hD
      refine lv_aload_n hx hb dX11_house_68 rfl (lv_at hl 0 rfl) ?_
      refine lv_aload_n hx hb dX11_house_69 rfl (lv_at hl 0 rfl) ?_
      refine va_get (D := D) (ci := 11) (v := .int 1) (C := RX11) (T := TX11) (N := 11) hx hb hg inG11 hown hK hP 0 rfl rfl 1 (by decide) (hg _ wd_7) (fun _ h9 => h9) rfl dX11_house_70 ?_
      refine lv_iconst (v := 1) hx hb dX11_house_73 (by decide) ?_
      refine lv_isub hx hb dX11_house_74 ?_
      refine lv_topi (fun f_33 ef_33 => ?_)
      obtain rfl : f_33 = 0 := by rw [ef_33]; decide
      have hPc := hP.sub (ws' := [(xa, .inr (11, [.ref x0, .int 1, .ref x2, .int 0, .ref x4, .ref x5, .ref x6, .int x7, .ref x8, .int x9, .int x10]))]) [0] rfl
      have hDc := hD.sub (ws' := [(xa, .inr (11, [.ref x0, .int 1, .ref x2, .int 0, .ref x4, .ref x5, .ref x6, .int x7, .ref x8, .int x9, .int x10]))]) [0] (by decide) rfl
      have hKc := hK.sub (tys' := []) [] rfl
      have hFc := va_free (wc := [(xa, .inr (11, [.ref x0, .int 1, .ref x2, .int 0, .ref x4, .ref x5, .ref x6, .int x7, .ref x8, .int x9, .int x10]))]) hD hS hA [0] rfl
      refine va_calli (va_runV (As := [.int 0]) (rest := []) ⟨hx, hb, hml, hown, hg⟩ (k_accept l D H_32.size xa x0 1 x2 0 x4 x5 x6 x7 x8 x9 x10 0) (cwV 1 hg (gV wd_39 wd_40 wd_41 wd_5 wd_42) rfl rfl rfl (by decide +kernel) ⟨(Nat.le_of_ble_eq_true rfl), (Nat.le_of_ble_eq_true rfl)⟩) ⟨Pr.blind, va_recv hKc hPc (ci := 11) (q0 := 0) rfl rfl, fun U hU hW => ⟨rfl, Pr.at hPc hKc hDc hN hU hW⟩⟩ rfl rfl hl.1 rfl (lv_room (Nat.le_of_ble_eq_true rfl)) dX11_house_75 ⟨(Nat.le_of_ble_eq_true rfl), (Nat.le_of_ble_eq_true rfl)⟩) hS (fun q _ h => hFc q h) hFc (fun r_35 u t H_34 locs ht hvm hw hB hz1 hk1 hS => ?_)
      obtain ⟨hP1, hK1, hD1⟩ := hB
      rw [ht] at hP1
      have hK1 := va_K.moved hvm.symm hK1
      obtain ⟨hP, hD⟩ := va_join (wr := [(x0, .inl (ca, 8, .inr (.inr (.inr (.inr (va_up (fun _ => none) (0 : Int32).toNatClampNeg (some q_6))))))), (q_6, .inr (2, [.int e0_10, .int e1_11, .int e2_12, .ref e3_13, .int e4_14, .int e5_15, .ref e6_16, .ref e7_17, .ref e8_18, .int e9_19, .ref e10_20, .int e11_21, .ref e12_22, .ref e13_23, .long e14_24, .int e15_25, .ref e16_26, .ref e17_27, .ref e18_28, .ref e19_29]))]) (w1 := [(xa, .inr (11, [.ref x0, .int 1, .ref x2, .int 0, .ref x4, .ref x5, .ref x6, .int x7, .ref x8, .int 0, .int (-1)]))]) hP hD [0] [1, 2] rfl rfl (by decide) (by decide) hk1 hFc hP1 hD1
      have hP : va_P D vwCl [(x0, .inl (ca, 8, .inr (.inr (.inr (.inr (va_up (fun _ => none) (0 : Int32).toNatClampNeg (some q_6))))))), (q_6, .inr (2, [.int e0_10, .int e1_11, .int e2_12, .ref e3_13, .int e4_14, .int e5_15, .ref e6_16, .ref e7_17, .ref e8_18, .int e9_19, .ref e10_20, .int e11_21, .ref e12_22, .ref e13_23, .long e14_24, .int e15_25, .ref e16_26, .ref e17_27, .ref e18_28, .ref e19_29])), (xa, .inr (11, [.ref x0, .int 1, .ref x2, .int 0, .ref x4, .ref x5, .ref x6, .int x7, .ref x8, .int 0, .int (-1)]))] H_34 := hP
      have hD : va_D A [(x0, .inl (ca, 8, .inr (.inr (.inr (.inr (va_up (fun _ => none) (0 : Int32).toNatClampNeg (some q_6))))))), (q_6, .inr (2, [.int e0_10, .int e1_11, .int e2_12, .ref e3_13, .int e4_14, .int e5_15, .ref e6_16, .ref e7_17, .ref e8_18, .int e9_19, .ref e10_20, .int e11_21, .ref e12_22, .ref e13_23, .long e14_24, .int e15_25, .ref e16_26, .ref e17_27, .ref e18_28, .ref e19_29])), (xa, .inr (11, [.ref x0, .int 1, .ref x2, .int 0, .ref x4, .ref x5, .ref x6, .int x7, .ref x8, .int 0, .int (-1)]))] := hD
      subst hw
      exact W.iret (v := 0) hx hb hr (fun t ht hW => ⟨⟨0, (), rfl, by simp [ansHouse, c_1, c_4], trivial⟩, hS.F ht⟩) hS.2.2 dX11_house_78
    · refine lv_aload_n hx hb dX11_house_11 rfl (lv_at hl 0 rfl) ?_
      refine lv_iconst (v := 2) hx hb dX11_house_12 (by decide) ?_
      have hPc := hP.sub (ws' := [(xa, .inr (11, [.ref x0, .int 0, .ref x2, .int 0, .ref x4, .ref x5, .ref x6, .int x7, .ref x8, .int x9, .int x10]))]) [0] rfl
      have hDc := hD.sub (ws' := [(xa, .inr (11, [.ref x0, .int 0, .ref x2, .int 0, .ref x4, .ref x5, .ref x6, .int x7, .ref x8, .int x9, .int x10]))]) [0] (by decide) rfl
      have hKc := hK.sub (tys' := []) [] rfl
      have hFc := va_free (wc := [(xa, .inr (11, [.ref x0, .int 0, .ref x2, .int 0, .ref x4, .ref x5, .ref x6, .int x7, .ref x8, .int x9, .int x10]))]) hD hS hA [0] rfl
      refine va_calli (va_runV (As := [.int 2]) (rest := []) ⟨hx, hb, hml, hown, hg⟩ (k_refuse l D s.heap.size xa x0 0 x2 0 x4 x5 x6 x7 x8 x9 x10 2) (cwV 1 hg (gV wd_14 wd_15 wd_16 wd_5 wd_17) rfl rfl rfl (by decide +kernel) ⟨(Nat.le_of_ble_eq_true rfl), (Nat.le_of_ble_eq_true rfl)⟩) ⟨Pr.blind, va_recv hKc hPc (ci := 11) (q0 := 0) rfl rfl, fun U hU hW => ⟨rfl, Pr.at hPc hKc hDc hN hU hW⟩⟩ rfl rfl hl.1 rfl (lv_room (Nat.le_of_ble_eq_true rfl)) dX11_house_13 ⟨(Nat.le_of_ble_eq_true rfl), (Nat.le_of_ble_eq_true rfl)⟩) hS (fun q _ h => hFc q h) hFc (fun r_37 u t H_36 locs ht hvm hw hB hz1 hk1 hS => ?_)
      obtain ⟨hP1, hK1, hD1⟩ := hB
      rw [ht] at hP1
      have hK1 := va_K.moved hvm.symm hK1
      obtain ⟨hP, hD⟩ := va_join (wr := [(x0, .inl (ca, 8, .inr (.inr (.inr (.inr (fun _ => none))))))]) (w1 := [(xa, .inr (11, [.ref x0, .int 0, .ref x2, .int 0, .ref x4, .ref x5, .ref x6, .int x7, .ref x8, .int 2, .int (-1)]))]) hP hD [0] [1] rfl rfl (by decide) (by decide) hk1 hFc hP1 hD1
      have hP : va_P D vwCl [(x0, .inl (ca, 8, .inr (.inr (.inr (.inr (fun _ => none)))))), (xa, .inr (11, [.ref x0, .int 0, .ref x2, .int 0, .ref x4, .ref x5, .ref x6, .int x7, .ref x8, .int 2, .int (-1)]))] H_36 := hP
      have hD : va_D A [(x0, .inl (ca, 8, .inr (.inr (.inr (.inr (fun _ => none)))))), (xa, .inr (11, [.ref x0, .int 0, .ref x2, .int 0, .ref x4, .ref x5, .ref x6, .int x7, .ref x8, .int 2, .int (-1)]))] := hD
      subst hw
      refine W.widen (k := 21) (n := 2800) (Nat.le_of_ble_eq_true rfl) (Nat.le_of_ble_eq_true rfl) ?_
      exact W.iret (v := (-1)) hx hb hr (fun t ht hW => ⟨⟨(-1), (), rfl, by simp [ansHouse, c_1, c_4], trivial⟩, hS.F ht⟩) hS.2.2 dX11_house_16
set_option maxHeartbeats 4000000 in
set_option maxRecDepth 100000 in
theorem k_partner (l : Launch) (D : va_G) (sz : Nat) (xa : Nat) (x0 : Nat) (x2 : Nat) (x4 : Nat) (x5 : Nat) (x6 : Nat) (x7 : Int32) (x8 : Nat) (x9 : Int32) (x10 : Int32) (k1 : Int32) (k2 : Int32) (ca : ClassId) : Met l yX11_partner (wsM yX11_partner cX11_partner 4 (some .int)) ({ frames := 2, cells := 1, slots := 4, locals := 43 }) (va_Pc [.ref xa, .int k1, .int k2] (Pr D [(xa, .inr (11, [.ref x0, .int 0, .ref x2, .int 0, .ref x4, .ref x5, .ref x6, .int x7, .ref x8, .int x9, .int x10])), (x2, .inl (ca, 40, .inr (.inr (.inr (.inr (fun _ => none))))))] [(ca, .object RX4)] sz)) (va_Qi (fun (r : Int32) (_ : Unit) => r = ansPartner k1 k2) (fun _ _ => True) (va_A [(xa, .inr (11, [.ref x0, .int 0, .ref x2, .int 0, .ref x4, .ref x5, .ref x6, .int x7, .ref x8, .int x9, .int x10])), (x2, .inl (ca, 40, .inr (.inr (.inr (.inr (fun _ => none))))))] sz)) 1 4 (va_A [(xa, .inr (11, [.ref x0, .int 0, .ref x2, .int 0, .ref x4, .ref x5, .ref x6, .int x7, .ref x8, .int x9, .int x10])), (x2, .inl (ca, 40, .inr (.inr (.inr (.inr (fun _ => none))))))] sz) := by
  refine Met.ofW (cc := cX11_partner) (maxL := 4) (ret := (some .int)) (by decide) rfl ?_
  intro p e s m args below meth c s₁ B hml hv
  obtain ⟨rfl, hsz, hP, hK, hD0, hN⟩ := hv
  have hx := B.exec
  have hb := B.bytes
  have hr := B.returns
  have hts := atoms_spec (ws := (wsM yX11_partner cX11_partner 4 (some .int))) B.pre
  have hg : ∀ w ∈ lw_good, w.before _ s = true := fun w h => hts w (List.mem_cons_of_mem _ h)
  have hown : s.vm.findClass RX11 = some m.cls := findClass_of_methodNamed B.named
  have hlocks := B.notSynchronized
  subst hsz
  have hD := hD0.self (sz := s.heap.size)
  generalize hAe : va_A [(xa, .inr (11, [.ref x0, .int 0, .ref x2, .int 0, .ref x4, .ref x5, .ref x6, .int x7, .ref x8, .int x9, .int x10])), (x2, .inl (ca, 40, .inr (.inr (.inr (.inr (fun _ => none))))))] s.heap.size = A at hD ⊢
  have hA : ∀ q : Nat, s.heap.size ≤ q → A q := fun q h => by rw [← hAe]; exact Or.inr h
  have hS : va_S A s.heap s.heap [] := va_S.rf
  have hP : va_P D vwCl [(xa, .inr (11, [.ref x0, .int 0, .ref x2, .int 0, .ref x4, .ref x5, .ref x6, .int x7, .ref x8, .int x9, .int x10])), (x2, .inl (ca, 40, .inr (.inr (.inr (.inr (fun _ => none))))))] s.heap := hP
  have hl := lv_entry ([.ref xa, .int k1, .int k2]) (n := 4) (Nat.le_of_ble_eq_true rfl)
  rw [lg_entry_eq]
  generalize (lg_sl ([.ref xa, .int k1, .int k2]) ++ List.replicate (4 - (lg_sl ([.ref xa, .int k1, .int k2])).length) Slot.unset).toArray = ls at hl ⊢
  have hl : lv_has ls 4 [(0, .ref xa), (1, .int k1), (2, .int k2)] := hl
  refine lv_iload_n hx hb dX11_partner_0 rfl (lv_at hl 1 rfl) ?_
  refine lv_if_lt (tgt := 10) hx hb dX11_partner_1 (by decide) (fun c_1 => ?_) (fun c_1 => ?_)
  · refine lv_aload_n hx hb dX11_partner_10 rfl (lv_at hl 0 rfl) ?_
    refine lv_iconst (v := 2) hx hb dX11_partner_11 (by decide) ?_
    have hPc := hP.sub (ws' := [(xa, .inr (11, [.ref x0, .int 0, .ref x2, .int 0, .ref x4, .ref x5, .ref x6, .int x7, .ref x8, .int x9, .int x10]))]) [0] rfl
    have hDc := hD.sub (ws' := [(xa, .inr (11, [.ref x0, .int 0, .ref x2, .int 0, .ref x4, .ref x5, .ref x6, .int x7, .ref x8, .int x9, .int x10]))]) [0] (by decide) rfl
    have hKc := hK.sub (tys' := []) [] rfl
    have hFc := va_free (wc := [(xa, .inr (11, [.ref x0, .int 0, .ref x2, .int 0, .ref x4, .ref x5, .ref x6, .int x7, .ref x8, .int x9, .int x10]))]) hD hS hA [0] rfl
    refine va_calli (va_runV (As := [.int 2]) (rest := []) ⟨hx, hb, hml, hown, hg⟩ (k_refuse l D s.heap.size xa x0 0 x2 0 x4 x5 x6 x7 x8 x9 x10 2) (cwV 1 hg (gV wd_14 wd_15 wd_16 wd_5 wd_17) rfl rfl rfl (by decide +kernel) ⟨(Nat.le_of_ble_eq_true rfl), (Nat.le_of_ble_eq_true rfl)⟩) ⟨Pr.blind, va_recv hKc hPc (ci := 11) (q0 := 0) rfl rfl, fun U hU hW => ⟨rfl, Pr.at hPc hKc hDc hN hU hW⟩⟩ rfl rfl hl.1 rfl (lv_room (Nat.le_of_ble_eq_true rfl)) dX11_partner_12 ⟨(Nat.le_of_ble_eq_true rfl), (Nat.le_of_ble_eq_true rfl)⟩) hS (fun q _ h => hFc q h) hFc (fun r_3 u t H_2 locs ht hvm hw hB hz1 hk1 hS => ?_)
    obtain ⟨hP1, hK1, hD1⟩ := hB
    rw [ht] at hP1
    have hK1 := va_K.moved hvm.symm hK1
    obtain ⟨hP, hD⟩ := va_join (wr := [(x2, .inl (ca, 40, .inr (.inr (.inr (.inr (fun _ => none))))))]) (w1 := [(xa, .inr (11, [.ref x0, .int 0, .ref x2, .int 0, .ref x4, .ref x5, .ref x6, .int x7, .ref x8, .int 2, .int (-1)]))]) hP hD [0] [1] rfl rfl (by decide) (by decide) hk1 hFc hP1 hD1
    have hP : va_P D vwCl [(x2, .inl (ca, 40, .inr (.inr (.inr (.inr (fun _ => none)))))), (xa, .inr (11, [.ref x0, .int 0, .ref x2, .int 0, .ref x4, .ref x5, .ref x6, .int x7, .ref x8, .int 2, .int (-1)]))] H_2 := hP
    have hD : va_D A [(x2, .inl (ca, 40, .inr (.inr (.inr (.inr (fun _ => none)))))), (xa, .inr (11, [.ref x0, .int 0, .ref x2, .int 0, .ref x4, .ref x5, .ref x6, .int x7, .ref x8, .int 2, .int (-1)]))] := hD
    subst hw
    refine W.widen (k := 1) (n := 4) (Nat.le_of_ble_eq_true rfl) (Nat.le_of_ble_eq_true rfl) ?_
    exact W.iret (v := (-1)) hx hb hr (fun t ht hW => ⟨⟨(-1), (), rfl, by simp [ansPartner, le6, c_1], trivial⟩, hS.F ht⟩) hS.2.2 dX11_partner_15
  · refine lv_iload_n hx hb dX11_partner_4 rfl (lv_at hl 1 rfl) ?_
    refine lv_bipush (v := 6) hx hb dX11_partner_5 (by decide) ?_
    refine lv_icmp_lt (tgt := 16) hx hb dX11_partner_7 (by decide) (fun c_4 => ?_) (fun c_4 => ?_)
    · refine lv_iload_n hx hb dX11_partner_16 rfl (lv_at hl 1 rfl) ?_
      have hPc := hP.sub (ws' := []) [] rfl
      have hDc := hD.sub (ws' := []) [] (by decide) rfl
      have hKc := hK.sub (tys' := []) [] rfl
      have hFc := va_free (wc := []) hD hS hA [] rfl
      refine va_calli (va_runS (As := [.int k1]) (rest := []) ⟨hx, hb, hml, hown, hg⟩ (k_isLimitedKind l D s.heap.size k1) (va_cwS 1 hg (gS wd_132 wd_133 wd_5 wd_134) rfl rfl rfl (by decide +kernel) ⟨(Nat.le_of_ble_eq_true rfl), (Nat.le_of_ble_eq_true rfl)⟩) ⟨Pr.blind, fun U hU hW => ⟨rfl, Pr.at hPc hKc hDc hN hU hW⟩⟩ rfl rfl hl.1 rfl (lv_room (Nat.le_of_ble_eq_true rfl)) dX11_partner_17 ⟨(Nat.le_of_ble_eq_true rfl), (Nat.le_of_ble_eq_true rfl)⟩) hS (fun q _ h => hFc q h) hFc (fun r_6 u t H_5 locs ht hvm hw hB hz1 hk1 hS => ?_)
      obtain ⟨hP1, hK1, hD1⟩ := hB
      rw [ht] at hP1
      have hK1 := va_K.moved hvm.symm hK1
      obtain ⟨hP, hD⟩ := va_join (wr := [(xa, .inr (11, [.ref x0, .int 0, .ref x2, .int 0, .ref x4, .ref x5, .ref x6, .int x7, .ref x8, .int x9, .int x10])), (x2, .inl (ca, 40, .inr (.inr (.inr (.inr (fun _ => none))))))]) (w1 := []) hP hD [] [0, 1] rfl rfl (by decide) (by decide) hk1 hFc hP1 hD1
      have hP : va_P D vwCl [(xa, .inr (11, [.ref x0, .int 0, .ref x2, .int 0, .ref x4, .ref x5, .ref x6, .int x7, .ref x8, .int x9, .int x10])), (x2, .inl (ca, 40, .inr (.inr (.inr (.inr (fun _ => none))))))] H_5 := hP
      have hD : va_D A [(xa, .inr (11, [.ref x0, .int 0, .ref x2, .int 0, .ref x4, .ref x5, .ref x6, .int x7, .ref x8, .int x9, .int x10])), (x2, .inl (ca, 40, .inr (.inr (.inr (.inr (fun _ => none))))))] := hD
      subst hw
      refine lv_if_eq (tgt := 39) hx hb dX11_partner_20 (by decide) (fun c_7 => ?_) (fun c_7 => ?_)
      · refine lv_iload_n hx hb dX11_partner_39 rfl (lv_at hl 1 rfl) ?_
        refine lv_iconst (v := 5) hx hb dX11_partner_40 (by decide) ?_
        refine lv_icmp_ne (tgt := 52) hx hb dX11_partner_41 (by decide) (fun c_8 => ?_) (fun c_8 => ?_)
        · refine lv_null hx hb dX11_partner_52 ?_
          refine lv_astore_nN (lv' := [(3, .null), (0, .ref xa), (1, .int k1), (2, .int k2)]) hx hb dX11_partner_53 rfl hl (by decide) rfl (fun ls hl => ?_)
          refine lv_iload_n hx hb dX11_partner_54 rfl (lv_at hl 2 rfl) ?_
          refine lv_iconst (v := 5) hx hb dX11_partner_55 (by decide) ?_
          refine lv_icmp_ne (tgt := 69) hx hb dX11_partner_56 (by decide) (fun c_9 => ?_) (fun c_9 => absurd c_9 c_8)
          refine lv_aload_n hx hb dX11_partner_69 rfl (lv_at hl 1 rfl) ?_
          refine va_get (D := D) (ci := 11) (v := .int 0) (C := RX11) (T := TX11) (N := 11) hx hb hg inG11 hown hK hP 0 rfl rfl 3 (by decide) (hg _ wd_8) (fun _ h9 => h9) rfl dX11_partner_70 ?_
          refine lv_bipush (v := 40) hx hb dX11_partner_73 (by decide) ?_
          refine lv_icmp_lt (tgt := 85) hx hb dX11_partner_75 (by decide) (fun _ => ?_) (fun c_10 => absurd c_10 (by decide))
          refine lv_aload_n hx hb dX11_partner_85 rfl (lv_at hl 1 rfl) ?_
          refine va_get (D := D) (ci := 11) (v := .ref x2) (C := RX11) (T := TX11) (N := 11) hx hb hg inG11 hown hK hP 0 rfl rfl 2 (by decide) (hg _ wd_116) (fun _ h9 => h9) rfl dX11_partner_86 ?_
          refine lv_aload_n hx hb dX11_partner_89 rfl (lv_at hl 1 rfl) ?_
          refine va_get (D := D) (ci := 11) (v := .int 0) (C := RX11) (T := TX11) (N := 11) hx hb hg inG11 hown hK hP 0 rfl rfl 3 (by decide) (hg _ wd_8) (fun _ h9 => h9) rfl dX11_partner_90 ?_
          refine va_new (ci := 4) (fs := [.int 0, .int 0, .int 0, .null]) (C := RX4) (T := TX4) (N := 4) hx hb hg inG4 tyX4 tyX4_ok hown (hg _ wd_115) (hg _ wd_135) (hg _ wd_136) hK hP hD hS hA rfl dfX4 (Nat.le_of_ble_eq_true rfl) (Nat.le_of_ble_eq_true rfl) dX11_partner_93 (fun q_11 H_12 hP hD hS => ?_)
          have hP : va_P D vwCl [(xa, .inr (11, [.ref x0, .int 0, .ref x2, .int 0, .ref x4, .ref x5, .ref x6, .int x7, .ref x8, .int x9, .int x10])), (x2, .inl (ca, 40, .inr (.inr (.inr (.inr (fun _ => none)))))), (q_11, .inr (4, [.int 0, .int 0, .int 0, .null]))] H_12 := hP
          have hD : va_D A [(xa, .inr (11, [.ref x0, .int 0, .ref x2, .int 0, .ref x4, .ref x5, .ref x6, .int x7, .ref x8, .int x9, .int x10])), (x2, .inl (ca, 40, .inr (.inr (.inr (.inr (fun _ => none)))))), (q_11, .inr (4, [.int 0, .int 0, .int 0, .null]))] := hD
          refine W.widen (k := 1) (n := 4) (Nat.le_of_ble_eq_true rfl) (Nat.le_of_ble_eq_true rfl) ?_
          refine lv_dup hx hb dX11_partner_96 rfl ?_
          refine lv_aload_n hx hb dX11_partner_97 rfl (lv_at hl 1 rfl) ?_
          refine va_get (D := D) (ci := 11) (v := .int 0) (C := RX11) (T := TX11) (N := 11) hx hb hg inG11 hown hK hP 0 rfl rfl 3 (by decide) (hg _ wd_8) (fun _ h9 => h9) rfl dX11_partner_98 ?_
          refine lv_iload_n hx hb dX11_partner_101 rfl (lv_at hl 2 rfl) ?_
          refine lv_iload_n hx hb dX11_partner_102 rfl (lv_at hl 3 rfl) ?_
          refine lv_aload_nN hx hb dX11_partner_103 rfl (lv_at hl 0 rfl) ?_
          have hPc := hP.sub (ws' := [(q_11, .inr (4, [.int 0, .int 0, .int 0, .null]))]) [2] rfl
          have hDc := hD.sub (ws' := [(q_11, .inr (4, [.int 0, .int 0, .int 0, .null]))]) [2] (by decide) rfl
          have hKc := hK.sub (tys' := []) [] rfl
          have hFc := va_free (wc := [(q_11, .inr (4, [.int 0, .int 0, .int 0, .null]))]) hD hS hA [2] rfl
          refine va_callv (va_runI (As := [.int 0, .int k1, .int k2, .null]) (rest := [.ref q_11, .int 0, .ref x2]) ⟨hx, hb, hml, hown, hg⟩ (k_Partner_init l D H_12.size q_11 0 k1 k2) (cwI 4 hg (gB wd_137) rfl rfl rfl (hg _ wd_136) (hg _ wd_138) (hg _ wd_139) rfl (by decide +kernel) ⟨(Nat.le_of_ble_eq_true rfl), (Nat.le_of_ble_eq_true rfl)⟩) ⟨Pr.blind, fun U hU hW => ⟨rfl, Pr.at hPc hKc hDc hN hU hW⟩⟩ rfl rfl hl.1 rfl (lv_room (Nat.le_of_ble_eq_true rfl)) dX11_partner_104 ⟨(Nat.le_of_ble_eq_true rfl), (Nat.le_of_ble_eq_true rfl)⟩) hS (fun q _ h => hFc q h) hFc (fun u t H_13 locs ht hvm hw hB hz1 hk1 hS => ?_)
          obtain ⟨hP1, hK1, hD1⟩ := hB
          rw [ht] at hP1
          have hK1 := va_K.moved hvm.symm hK1
          obtain ⟨hP, hD⟩ := va_join (wr := [(xa, .inr (11, [.ref x0, .int 0, .ref x2, .int 0, .ref x4, .ref x5, .ref x6, .int x7, .ref x8, .int x9, .int x10])), (x2, .inl (ca, 40, .inr (.inr (.inr (.inr (fun _ => none))))))]) (w1 := [(q_11, .inr (4, [.int 0, .int k1, .int k2, .null]))]) hP hD [2] [0, 1] rfl rfl (by decide) (by decide) hk1 hFc hP1 hD1
          have hP : va_P D vwCl [(xa, .inr (11, [.ref x0, .int 0, .ref x2, .int 0, .ref x4, .ref x5, .ref x6, .int x7, .ref x8, .int x9, .int x10])), (x2, .inl (ca, 40, .inr (.inr (.inr (.inr (fun _ => none)))))), (q_11, .inr (4, [.int 0, .int k1, .int k2, .null]))] H_13 := hP
          have hD : va_D A [(xa, .inr (11, [.ref x0, .int 0, .ref x2, .int 0, .ref x4, .ref x5, .ref x6, .int x7, .ref x8, .int x9, .int x10])), (x2, .inl (ca, 40, .inr (.inr (.inr (.inr (fun _ => none)))))), (q_11, .inr (4, [.int 0, .int k1, .int k2, .null]))] := hD
          refine va_astq (r := (RX4, TX4, 4)) hx hb hK hP hD hS 1 0 2 4 rfl rfl rfl rfl (by unfold vp_in; decide) dX11_partner_107 (fun H_15 locs hP hD hS => ?_)
          have hP : va_P D vwCl [(xa, .inr (11, [.ref x0, .int 0, .ref x2, .int 0, .ref x4, .ref x5, .ref x6, .int x7, .ref x8, .int x9, .int x10])), (x2, .inl (ca, 40, .inr (.inr (.inr (.inr (va_up (fun _ => none) (0 : Int32).toNatClampNeg (some q_11))))))), (q_11, .inr (4, [.int 0, .int k1, .int k2, .null]))] H_15 := hP
          have hD : va_D A [(xa, .inr (11, [.ref x0, .int 0, .ref x2, .int 0, .ref x4, .ref x5, .ref x6, .int x7, .ref x8, .int x9, .int x10])), (x2, .inl (ca, 40, .inr (.inr (.inr (.inr (va_up (fun _ => none) (0 : Int32).toNatClampNeg (some q_11))))))), (q_11, .inr (4, [.int 0, .int k1, .int k2, .null]))] := hD
          refine lv_aload_n hx hb dX11_partner_108 rfl (lv_at hl 1 rfl) ?_
          refine lv_dup hx hb dX11_partner_109 rfl ?_
          refine va_get (D := D) (ci := 11) (v := .int 0) (C := RX11) (T := TX11) (N := 11) hx hb hg inG11 hown hK hP 0 rfl rfl 3 (by decide) (hg _ wd_8) (fun _ h9 => h9) rfl dX11_partner_110 ?_
          refine lv_iconst (v := 1) hx hb dX11_partner_113 (by decide) ?_
          refine lv_iadd hx hb dX11_partner_114 ?_
          refine lv_topi (fun f_16 ef_16 => ?_)
          obtain rfl : f_16 = 1 := by rw [ef_16]; decide
          refine va_put (D := D) (ci := 11) (v := .int 1) (ty := .int) (C := RX11) (T := TX11) (N := 11) hx hb hg inG11 tyX11 tyX11_ok nmX11 hown hK hP hD hS 0 rfl rfl 3 (by decide) (hg _ wd_8) (fun _ h9 => h9) rfl (by decide +kernel) rfl rfl (Nat.le_of_ble_eq_true rfl) dX11_partner_115 (fun H_17 locs hP hD hS => ?_)
          have hP : va_P D vwCl [(xa, .inr (11, [.ref x0, .int 0, .ref x2, .int 1, .ref x4, .ref x5, .ref x6, .int x7, .ref x8, .int x9, .int x10])), (x2, .inl (ca, 40, .inr (.inr (.inr (.inr (va_up (fun _ => none) (0 : Int32).toNatClampNeg (some q_11))))))), (q_11, .inr (4, [.int 0, .int k1, .int k2, .null]))] H_17 := hP
          have hD : va_D A [(xa, .inr (11, [.ref x0, .int 0, .ref x2, .int 1, .ref x4, .ref x5, .ref x6, .int x7, .ref x8, .int x9, .int x10])), (x2, .inl (ca, 40, .inr (.inr (.inr (.inr (va_up (fun _ => none) (0 : Int32).toNatClampNeg (some q_11))))))), (q_11, .inr (4, [.int 0, .int k1, .int k2, .null]))] := hD
          refine lv_aload_n hx hb dX11_partner_118 rfl (lv_at hl 1 rfl) ?_
          refine lv_aload_n hx hb dX11_partner_119 rfl (lv_at hl 1 rfl) ?_
          refine va_get (D := D) (ci := 11) (v := .int 1) (C := RX11) (T := TX11) (N := 11) hx hb hg inG11 hown hK hP 0 rfl rfl 3 (by decide) (hg _ wd_8) (fun _ h9 => h9) rfl dX11_partner_120 ?_
          refine lv_iconst (v := 1) hx hb dX11_partner_123 (by decide) ?_
          refine lv_isub hx hb dX11_partner_124 ?_
          refine lv_topi (fun f_18 ef_18 => ?_)
          obtain rfl : f_18 = 0 := by rw [ef_18]; decide
          have hPc := hP.sub (ws' := [(xa, .inr (11, [.ref x0, .int 0, .ref x2, .int 1, .ref x4, .ref x5, .ref x6, .int x7, .ref x8, .int x9, .int x10]))]) [0] rfl
          have hDc := hD.sub (ws' := [(xa, .inr (11, [.ref x0, .int 0, .ref x2, .int 1, .ref x4, .ref x5, .ref x6, .int x7, .ref x8, .int x9, .int x10]))]) [0] (by decide) rfl
          have hKc := hK.sub (tys' := []) [] rfl
          have hFc := va_free (wc := [(xa, .inr (11, [.ref x0, .int 0, .ref x2, .int 1, .ref x4, .ref x5, .ref x6, .int x7, .ref x8, .int x9, .int x10]))]) hD hS hA [0] rfl
          refine va_calli (va_runV (As := [.int 0]) (rest := []) ⟨hx, hb, hml, hown, hg⟩ (k_accept l D H_17.size xa x0 0 x2 1 x4 x5 x6 x7 x8 x9 x10 0) (cwV 1 hg (gV wd_39 wd_40 wd_41 wd_5 wd_42) rfl rfl rfl (by decide +kernel) ⟨(Nat.le_of_ble_eq_true rfl), (Nat.le_of_ble_eq_true rfl)⟩) ⟨Pr.blind, va_recv hKc hPc (ci := 11) (q0 := 0) rfl rfl, fun U hU hW => ⟨rfl, Pr.at hPc hKc hDc hN hU hW⟩⟩ rfl rfl hl.1 rfl (lv_room (Nat.le_of_ble_eq_true rfl)) dX11_partner_125 ⟨(Nat.le_of_ble_eq_true rfl), (Nat.le_of_ble_eq_true rfl)⟩) hS (fun q _ h => hFc q h) hFc (fun r_20 u t H_19 locs ht hvm hw hB hz1 hk1 hS => ?_)
          obtain ⟨hP1, hK1, hD1⟩ := hB
          rw [ht] at hP1
          have hK1 := va_K.moved hvm.symm hK1
          obtain ⟨hP, hD⟩ := va_join (wr := [(x2, .inl (ca, 40, .inr (.inr (.inr (.inr (va_up (fun _ => none) (0 : Int32).toNatClampNeg (some q_11))))))), (q_11, .inr (4, [.int 0, .int k1, .int k2, .null]))]) (w1 := [(xa, .inr (11, [.ref x0, .int 0, .ref x2, .int 1, .ref x4, .ref x5, .ref x6, .int x7, .ref x8, .int 0, .int (-1)]))]) hP hD [0] [1, 2] rfl rfl (by decide) (by decide) hk1 hFc hP1 hD1
          have hP : va_P D vwCl [(x2, .inl (ca, 40, .inr (.inr (.inr (.inr (va_up (fun _ => none) (0 : Int32).toNatClampNeg (some q_11))))))), (q_11, .inr (4, [.int 0, .int k1, .int k2, .null])), (xa, .inr (11, [.ref x0, .int 0, .ref x2, .int 1, .ref x4, .ref x5, .ref x6, .int x7, .ref x8, .int 0, .int (-1)]))] H_19 := hP
          have hD : va_D A [(x2, .inl (ca, 40, .inr (.inr (.inr (.inr (va_up (fun _ => none) (0 : Int32).toNatClampNeg (some q_11))))))), (q_11, .inr (4, [.int 0, .int k1, .int k2, .null])), (xa, .inr (11, [.ref x0, .int 0, .ref x2, .int 1, .ref x4, .ref x5, .ref x6, .int x7, .ref x8, .int 0, .int (-1)]))] := hD
          subst hw
          exact W.iret (v := 0) hx hb hr (fun t ht hW => ⟨⟨0, (), rfl, by simp [ansPartner, le6, c_1, c_4, c_7, c_8, c_9], trivial⟩, hS.F ht⟩) hS.2.2 dX11_partner_128
        · refine lv_aload_n hx hb dX11_partner_44 rfl (lv_at hl 0 rfl) ?_
          refine lv_iload_n hx hb dX11_partner_45 rfl (lv_at hl 2 rfl) ?_
          have hPc := hP.sub (ws' := [(xa, .inr (11, [.ref x0, .int 0, .ref x2, .int 0, .ref x4, .ref x5, .ref x6, .int x7, .ref x8, .int x9, .int x10]))]) [0] rfl
          have hDc := hD.sub (ws' := [(xa, .inr (11, [.ref x0, .int 0, .ref x2, .int 0, .ref x4, .ref x5, .ref x6, .int x7, .ref x8, .int x9, .int x10]))]) [0] (by decide) rfl
          have hKc := hK.sub (tys' := []) [] rfl
          have hFc := va_free (wc := [(xa, .inr (11, [.ref x0, .int 0, .ref x2, .int 0, .ref x4, .ref x5, .ref x6, .int x7, .ref x8, .int x9, .int x10]))]) hD hS hA [0] rfl
          refine va_callq (va_runV (As := [.int k2]) (rest := []) ⟨hx, hb, hml, hown, hg⟩ (k_houseAt0 l D H_5.size xa x0 x2 x4 x5 x6 x7 x8 x9 x10 k2) (cwV 1 hg (gV wd_10 wd_11 wd_12 wd_5 wd_13) rfl rfl rfl (by decide +kernel) ⟨(Nat.le_of_ble_eq_true rfl), (Nat.le_of_ble_eq_true rfl)⟩) ⟨Pr.blind, va_recv hKc hPc (ci := 11) (q0 := 0) rfl rfl, fun U hU hW => ⟨rfl, Pr.at hPc hKc hDc hN hU hW⟩⟩ rfl rfl hl.1 rfl (lv_room (Nat.le_of_ble_eq_true rfl)) dX11_partner_46 ⟨(Nat.le_of_ble_eq_true rfl), (Nat.le_of_ble_eq_true rfl)⟩) hS (fun q _ h => hFc q h) hFc (fun r_22 u t H_21 locs ht hvm hw hB hz1 hk1 hS => ?_)
          obtain ⟨hP1, hK1, hD1⟩ := hB
          rw [ht] at hP1
          have hK1 := va_K.moved hvm.symm hK1
          obtain ⟨hP, hD⟩ := va_join (wr := [(x2, .inl (ca, 40, .inr (.inr (.inr (.inr (fun _ => none))))))]) (w1 := [(xa, .inr (11, [.ref x0, .int 0, .ref x2, .int 0, .ref x4, .ref x5, .ref x6, .int x7, .ref x8, .int x9, .int x10]))]) hP hD [0] [1] rfl rfl (by decide) (by decide) hk1 hFc hP1 hD1
          have hP : va_P D vwCl [(x2, .inl (ca, 40, .inr (.inr (.inr (.inr (fun _ => none)))))), (xa, .inr (11, [.ref x0, .int 0, .ref x2, .int 0, .ref x4, .ref x5, .ref x6, .int x7, .ref x8, .int x9, .int x10]))] H_21 := hP
          have hD : va_D A [(x2, .inl (ca, 40, .inr (.inr (.inr (.inr (fun _ => none)))))), (xa, .inr (11, [.ref x0, .int 0, .ref x2, .int 0, .ref x4, .ref x5, .ref x6, .int x7, .ref x8, .int x9, .int x10]))] := hD
          subst hw
          refine lv_goto (tgt := 53) hx hb dX11_partner_49 (by decide) ?_
          refine lv_astore_nN (lv' := [(3, .null), (0, .ref xa), (1, .int k1), (2, .int k2)]) hx hb dX11_partner_53 rfl hl (by decide) rfl (fun ls hl => ?_)
          refine lv_iload_n hx hb dX11_partner_54 rfl (lv_at hl 2 rfl) ?_
          refine lv_iconst (v := 5) hx hb dX11_partner_55 (by decide) ?_
          refine lv_icmp_ne (tgt := 69) hx hb dX11_partner_56 (by decide) (fun c_23 => absurd c_8 c_23) (fun c_23 => ?_)
          refine lv_aload_nN hx hb dX11_partner_59 rfl (lv_at hl 0 rfl) ?_
          refine lv_ifnonnullN hx hb dX11_partner_60 ?_
          refine lv_aload_n hx hb dX11_partner_63 rfl (lv_at hl 1 rfl) ?_
          refine lv_iconst (v := 1) hx hb dX11_partner_64 (by decide) ?_
          have hPc := hP.sub (ws' := [(xa, .inr (11, [.ref x0, .int 0, .ref x2, .int 0, .ref x4, .ref x5, .ref x6, .int x7, .ref x8, .int x9, .int x10]))]) [1] rfl
          have hDc := hD.sub (ws' := [(xa, .inr (11, [.ref x0, .int 0, .ref x2, .int 0, .ref x4, .ref x5, .ref x6, .int x7, .ref x8, .int x9, .int x10]))]) [1] (by decide) rfl
          have hKc := hK.sub (tys' := []) [] rfl
          have hFc := va_free (wc := [(xa, .inr (11, [.ref x0, .int 0, .ref x2, .int 0, .ref x4, .ref x5, .ref x6, .int x7, .ref x8, .int x9, .int x10]))]) hD hS hA [1] rfl
          refine va_calli (va_runV (As := [.int 1]) (rest := []) ⟨hx, hb, hml, hown, hg⟩ (k_refuse l D H_21.size xa x0 0 x2 0 x4 x5 x6 x7 x8 x9 x10 1) (cwV 1 hg (gV wd_14 wd_15 wd_16 wd_5 wd_17) rfl rfl rfl (by decide +kernel) ⟨(Nat.le_of_ble_eq_true rfl), (Nat.le_of_ble_eq_true rfl)⟩) ⟨Pr.blind, va_recv hKc hPc (ci := 11) (q0 := 0) rfl rfl, fun U hU hW => ⟨rfl, Pr.at hPc hKc hDc hN hU hW⟩⟩ rfl rfl hl.1 rfl (lv_room (Nat.le_of_ble_eq_true rfl)) dX11_partner_65 ⟨(Nat.le_of_ble_eq_true rfl), (Nat.le_of_ble_eq_true rfl)⟩) hS (fun q _ h => hFc q h) hFc (fun r_25 u t H_24 locs ht hvm hw hB hz1 hk1 hS => ?_)
          obtain ⟨hP1, hK1, hD1⟩ := hB
          rw [ht] at hP1
          have hK1 := va_K.moved hvm.symm hK1
          obtain ⟨hP, hD⟩ := va_join (wr := [(x2, .inl (ca, 40, .inr (.inr (.inr (.inr (fun _ => none))))))]) (w1 := [(xa, .inr (11, [.ref x0, .int 0, .ref x2, .int 0, .ref x4, .ref x5, .ref x6, .int x7, .ref x8, .int 1, .int (-1)]))]) hP hD [1] [0] rfl rfl (by decide) (by decide) hk1 hFc hP1 hD1
          have hP : va_P D vwCl [(x2, .inl (ca, 40, .inr (.inr (.inr (.inr (fun _ => none)))))), (xa, .inr (11, [.ref x0, .int 0, .ref x2, .int 0, .ref x4, .ref x5, .ref x6, .int x7, .ref x8, .int 1, .int (-1)]))] H_24 := hP
          have hD : va_D A [(x2, .inl (ca, 40, .inr (.inr (.inr (.inr (fun _ => none)))))), (xa, .inr (11, [.ref x0, .int 0, .ref x2, .int 0, .ref x4, .ref x5, .ref x6, .int x7, .ref x8, .int 1, .int (-1)]))] := hD
          subst hw
          refine W.widen (k := 1) (n := 4) (Nat.le_of_ble_eq_true rfl) (Nat.le_of_ble_eq_true rfl) ?_
          exact W.iret (v := (-1)) hx hb hr (fun t ht hW => ⟨⟨(-1), (), rfl, by simp [ansPartner, le6, c_1, c_4, c_7, c_8, c_23], trivial⟩, hS.F ht⟩) hS.2.2 dX11_partner_68
      · refine lv_iload_n hx hb dX11_partner_23 rfl (lv_at hl 2 rfl) ?_
        refine lv_if_lt (tgt := 33) hx hb dX11_partner_24 (by decide) (fun c_26 => ?_) (fun c_26 => ?_)
        · refine lv_aload_n hx hb dX11_partner_33 rfl (lv_at hl 0 rfl) ?_
          refine lv_iconst (v := 2) hx hb dX11_partner_34 (by decide) ?_
          have hPc := hP.sub (ws' := [(xa, .inr (11, [.ref x0, .int 0, .ref x2, .int 0, .ref x4, .ref x5, .ref x6, .int x7, .ref x8, .int x9, .int x10]))]) [0] rfl
          have hDc := hD.sub (ws' := [(xa, .inr (11, [.ref x0, .int 0, .ref x2, .int 0, .ref x4, .ref x5, .ref x6, .int x7, .ref x8, .int x9, .int x10]))]) [0] (by decide) rfl
          have hKc := hK.sub (tys' := []) [] rfl
          have hFc := va_free (wc := [(xa, .inr (11, [.ref x0, .int 0, .ref x2, .int 0, .ref x4, .ref x5, .ref x6, .int x7, .ref x8, .int x9, .int x10]))]) hD hS hA [0] rfl
          refine va_calli (va_runV (As := [.int 2]) (rest := []) ⟨hx, hb, hml, hown, hg⟩ (k_refuse l D H_5.size xa x0 0 x2 0 x4 x5 x6 x7 x8 x9 x10 2) (cwV 1 hg (gV wd_14 wd_15 wd_16 wd_5 wd_17) rfl rfl rfl (by decide +kernel) ⟨(Nat.le_of_ble_eq_true rfl), (Nat.le_of_ble_eq_true rfl)⟩) ⟨Pr.blind, va_recv hKc hPc (ci := 11) (q0 := 0) rfl rfl, fun U hU hW => ⟨rfl, Pr.at hPc hKc hDc hN hU hW⟩⟩ rfl rfl hl.1 rfl (lv_room (Nat.le_of_ble_eq_true rfl)) dX11_partner_35 ⟨(Nat.le_of_ble_eq_true rfl), (Nat.le_of_ble_eq_true rfl)⟩) hS (fun q _ h => hFc q h) hFc (fun r_28 u t H_27 locs ht hvm hw hB hz1 hk1 hS => ?_)
          obtain ⟨hP1, hK1, hD1⟩ := hB
          rw [ht] at hP1
          have hK1 := va_K.moved hvm.symm hK1
          obtain ⟨hP, hD⟩ := va_join (wr := [(x2, .inl (ca, 40, .inr (.inr (.inr (.inr (fun _ => none))))))]) (w1 := [(xa, .inr (11, [.ref x0, .int 0, .ref x2, .int 0, .ref x4, .ref x5, .ref x6, .int x7, .ref x8, .int 2, .int (-1)]))]) hP hD [0] [1] rfl rfl (by decide) (by decide) hk1 hFc hP1 hD1
          have hP : va_P D vwCl [(x2, .inl (ca, 40, .inr (.inr (.inr (.inr (fun _ => none)))))), (xa, .inr (11, [.ref x0, .int 0, .ref x2, .int 0, .ref x4, .ref x5, .ref x6, .int x7, .ref x8, .int 2, .int (-1)]))] H_27 := hP
          have hD : va_D A [(x2, .inl (ca, 40, .inr (.inr (.inr (.inr (fun _ => none)))))), (xa, .inr (11, [.ref x0, .int 0, .ref x2, .int 0, .ref x4, .ref x5, .ref x6, .int x7, .ref x8, .int 2, .int (-1)]))] := hD
          subst hw
          refine W.widen (k := 1) (n := 4) (Nat.le_of_ble_eq_true rfl) (Nat.le_of_ble_eq_true rfl) ?_
          exact W.iret (v := (-1)) hx hb hr (fun t ht hW => ⟨⟨(-1), (), rfl, by simp [ansPartner, le6, c_1, c_4, c_7, c_26], trivial⟩, hS.F ht⟩) hS.2.2 dX11_partner_38
        · refine lv_iload_n hx hb dX11_partner_27 rfl (lv_at hl 2 rfl) ?_
          refine lv_ldc (v := 1000000000) hx hb hown (hg _ wd_140) dX11_partner_28 ?_
          refine lv_icmp_le (tgt := 39) hx hb dX11_partner_30 (by decide) (fun c_29 => ?_) (fun c_29 => ?_)
          · refine lv_iload_n hx hb dX11_partner_39 rfl (lv_at hl 1 rfl) ?_
            refine lv_iconst (v := 5) hx hb dX11_partner_40 (by decide) ?_
            refine lv_icmp_ne (tgt := 52) hx hb dX11_partner_41 (by decide) (fun c_30 => ?_) (fun c_30 => ?_)
            · refine lv_null hx hb dX11_partner_52 ?_
              refine lv_astore_nN (lv' := [(3, .null), (0, .ref xa), (1, .int k1), (2, .int k2)]) hx hb dX11_partner_53 rfl hl (by decide) rfl (fun ls hl => ?_)
              refine lv_iload_n hx hb dX11_partner_54 rfl (lv_at hl 2 rfl) ?_
              refine lv_iconst (v := 5) hx hb dX11_partner_55 (by decide) ?_
              refine lv_icmp_ne (tgt := 69) hx hb dX11_partner_56 (by decide) (fun c_31 => ?_) (fun c_31 => absurd c_31 c_30)
              refine lv_aload_n hx hb dX11_partner_69 rfl (lv_at hl 1 rfl) ?_
              refine va_get (D := D) (ci := 11) (v := .int 0) (C := RX11) (T := TX11) (N := 11) hx hb hg inG11 hown hK hP 0 rfl rfl 3 (by decide) (hg _ wd_8) (fun _ h9 => h9) rfl dX11_partner_70 ?_
              refine lv_bipush (v := 40) hx hb dX11_partner_73 (by decide) ?_
              refine lv_icmp_lt (tgt := 85) hx hb dX11_partner_75 (by decide) (fun _ => ?_) (fun c_32 => absurd c_32 (by decide))
              refine lv_aload_n hx hb dX11_partner_85 rfl (lv_at hl 1 rfl) ?_
              refine va_get (D := D) (ci := 11) (v := .ref x2) (C := RX11) (T := TX11) (N := 11) hx hb hg inG11 hown hK hP 0 rfl rfl 2 (by decide) (hg _ wd_116) (fun _ h9 => h9) rfl dX11_partner_86 ?_
              refine lv_aload_n hx hb dX11_partner_89 rfl (lv_at hl 1 rfl) ?_
              refine va_get (D := D) (ci := 11) (v := .int 0) (C := RX11) (T := TX11) (N := 11) hx hb hg inG11 hown hK hP 0 rfl rfl 3 (by decide) (hg _ wd_8) (fun _ h9 => h9) rfl dX11_partner_90 ?_
              refine va_new (ci := 4) (fs := [.int 0, .int 0, .int 0, .null]) (C := RX4) (T := TX4) (N := 4) hx hb hg inG4 tyX4 tyX4_ok hown (hg _ wd_115) (hg _ wd_135) (hg _ wd_136) hK hP hD hS hA rfl dfX4 (Nat.le_of_ble_eq_true rfl) (Nat.le_of_ble_eq_true rfl) dX11_partner_93 (fun q_33 H_34 hP hD hS => ?_)
              have hP : va_P D vwCl [(xa, .inr (11, [.ref x0, .int 0, .ref x2, .int 0, .ref x4, .ref x5, .ref x6, .int x7, .ref x8, .int x9, .int x10])), (x2, .inl (ca, 40, .inr (.inr (.inr (.inr (fun _ => none)))))), (q_33, .inr (4, [.int 0, .int 0, .int 0, .null]))] H_34 := hP
              have hD : va_D A [(xa, .inr (11, [.ref x0, .int 0, .ref x2, .int 0, .ref x4, .ref x5, .ref x6, .int x7, .ref x8, .int x9, .int x10])), (x2, .inl (ca, 40, .inr (.inr (.inr (.inr (fun _ => none)))))), (q_33, .inr (4, [.int 0, .int 0, .int 0, .null]))] := hD
              refine W.widen (k := 1) (n := 4) (Nat.le_of_ble_eq_true rfl) (Nat.le_of_ble_eq_true rfl) ?_
              refine lv_dup hx hb dX11_partner_96 rfl ?_
              refine lv_aload_n hx hb dX11_partner_97 rfl (lv_at hl 1 rfl) ?_
              refine va_get (D := D) (ci := 11) (v := .int 0) (C := RX11) (T := TX11) (N := 11) hx hb hg inG11 hown hK hP 0 rfl rfl 3 (by decide) (hg _ wd_8) (fun _ h9 => h9) rfl dX11_partner_98 ?_
              refine lv_iload_n hx hb dX11_partner_101 rfl (lv_at hl 2 rfl) ?_
              refine lv_iload_n hx hb dX11_partner_102 rfl (lv_at hl 3 rfl) ?_
              refine lv_aload_nN hx hb dX11_partner_103 rfl (lv_at hl 0 rfl) ?_
              have hPc := hP.sub (ws' := [(q_33, .inr (4, [.int 0, .int 0, .int 0, .null]))]) [2] rfl
              have hDc := hD.sub (ws' := [(q_33, .inr (4, [.int 0, .int 0, .int 0, .null]))]) [2] (by decide) rfl
              have hKc := hK.sub (tys' := []) [] rfl
              have hFc := va_free (wc := [(q_33, .inr (4, [.int 0, .int 0, .int 0, .null]))]) hD hS hA [2] rfl
              refine va_callv (va_runI (As := [.int 0, .int k1, .int k2, .null]) (rest := [.ref q_33, .int 0, .ref x2]) ⟨hx, hb, hml, hown, hg⟩ (k_Partner_init l D H_34.size q_33 0 k1 k2) (cwI 4 hg (gB wd_137) rfl rfl rfl (hg _ wd_136) (hg _ wd_138) (hg _ wd_139) rfl (by decide +kernel) ⟨(Nat.le_of_ble_eq_true rfl), (Nat.le_of_ble_eq_true rfl)⟩) ⟨Pr.blind, fun U hU hW => ⟨rfl, Pr.at hPc hKc hDc hN hU hW⟩⟩ rfl rfl hl.1 rfl (lv_room (Nat.le_of_ble_eq_true rfl)) dX11_partner_104 ⟨(Nat.le_of_ble_eq_true rfl), (Nat.le_of_ble_eq_true rfl)⟩) hS (fun q _ h => hFc q h) hFc (fun u t H_35 locs ht hvm hw hB hz1 hk1 hS => ?_)
              obtain ⟨hP1, hK1, hD1⟩ := hB
              rw [ht] at hP1
              have hK1 := va_K.moved hvm.symm hK1
              obtain ⟨hP, hD⟩ := va_join (wr := [(xa, .inr (11, [.ref x0, .int 0, .ref x2, .int 0, .ref x4, .ref x5, .ref x6, .int x7, .ref x8, .int x9, .int x10])), (x2, .inl (ca, 40, .inr (.inr (.inr (.inr (fun _ => none))))))]) (w1 := [(q_33, .inr (4, [.int 0, .int k1, .int k2, .null]))]) hP hD [2] [0, 1] rfl rfl (by decide) (by decide) hk1 hFc hP1 hD1
              have hP : va_P D vwCl [(xa, .inr (11, [.ref x0, .int 0, .ref x2, .int 0, .ref x4, .ref x5, .ref x6, .int x7, .ref x8, .int x9, .int x10])), (x2, .inl (ca, 40, .inr (.inr (.inr (.inr (fun _ => none)))))), (q_33, .inr (4, [.int 0, .int k1, .int k2, .null]))] H_35 := hP
              have hD : va_D A [(xa, .inr (11, [.ref x0, .int 0, .ref x2, .int 0, .ref x4, .ref x5, .ref x6, .int x7, .ref x8, .int x9, .int x10])), (x2, .inl (ca, 40, .inr (.inr (.inr (.inr (fun _ => none)))))), (q_33, .inr (4, [.int 0, .int k1, .int k2, .null]))] := hD
              refine va_astq (r := (RX4, TX4, 4)) hx hb hK hP hD hS 1 0 2 4 rfl rfl rfl rfl (by unfold vp_in; decide) dX11_partner_107 (fun H_37 locs hP hD hS => ?_)
              have hP : va_P D vwCl [(xa, .inr (11, [.ref x0, .int 0, .ref x2, .int 0, .ref x4, .ref x5, .ref x6, .int x7, .ref x8, .int x9, .int x10])), (x2, .inl (ca, 40, .inr (.inr (.inr (.inr (va_up (fun _ => none) (0 : Int32).toNatClampNeg (some q_33))))))), (q_33, .inr (4, [.int 0, .int k1, .int k2, .null]))] H_37 := hP
              have hD : va_D A [(xa, .inr (11, [.ref x0, .int 0, .ref x2, .int 0, .ref x4, .ref x5, .ref x6, .int x7, .ref x8, .int x9, .int x10])), (x2, .inl (ca, 40, .inr (.inr (.inr (.inr (va_up (fun _ => none) (0 : Int32).toNatClampNeg (some q_33))))))), (q_33, .inr (4, [.int 0, .int k1, .int k2, .null]))] := hD
              refine lv_aload_n hx hb dX11_partner_108 rfl (lv_at hl 1 rfl) ?_
              refine lv_dup hx hb dX11_partner_109 rfl ?_
              refine va_get (D := D) (ci := 11) (v := .int 0) (C := RX11) (T := TX11) (N := 11) hx hb hg inG11 hown hK hP 0 rfl rfl 3 (by decide) (hg _ wd_8) (fun _ h9 => h9) rfl dX11_partner_110 ?_
              refine lv_iconst (v := 1) hx hb dX11_partner_113 (by decide) ?_
              refine lv_iadd hx hb dX11_partner_114 ?_
              refine lv_topi (fun f_38 ef_38 => ?_)
              obtain rfl : f_38 = 1 := by rw [ef_38]; decide
              refine va_put (D := D) (ci := 11) (v := .int 1) (ty := .int) (C := RX11) (T := TX11) (N := 11) hx hb hg inG11 tyX11 tyX11_ok nmX11 hown hK hP hD hS 0 rfl rfl 3 (by decide) (hg _ wd_8) (fun _ h9 => h9) rfl (by decide +kernel) rfl rfl (Nat.le_of_ble_eq_true rfl) dX11_partner_115 (fun H_39 locs hP hD hS => ?_)
              have hP : va_P D vwCl [(xa, .inr (11, [.ref x0, .int 0, .ref x2, .int 1, .ref x4, .ref x5, .ref x6, .int x7, .ref x8, .int x9, .int x10])), (x2, .inl (ca, 40, .inr (.inr (.inr (.inr (va_up (fun _ => none) (0 : Int32).toNatClampNeg (some q_33))))))), (q_33, .inr (4, [.int 0, .int k1, .int k2, .null]))] H_39 := hP
              have hD : va_D A [(xa, .inr (11, [.ref x0, .int 0, .ref x2, .int 1, .ref x4, .ref x5, .ref x6, .int x7, .ref x8, .int x9, .int x10])), (x2, .inl (ca, 40, .inr (.inr (.inr (.inr (va_up (fun _ => none) (0 : Int32).toNatClampNeg (some q_33))))))), (q_33, .inr (4, [.int 0, .int k1, .int k2, .null]))] := hD
              refine lv_aload_n hx hb dX11_partner_118 rfl (lv_at hl 1 rfl) ?_
              refine lv_aload_n hx hb dX11_partner_119 rfl (lv_at hl 1 rfl) ?_
              refine va_get (D := D) (ci := 11) (v := .int 1) (C := RX11) (T := TX11) (N := 11) hx hb hg inG11 hown hK hP 0 rfl rfl 3 (by decide) (hg _ wd_8) (fun _ h9 => h9) rfl dX11_partner_120 ?_
              refine lv_iconst (v := 1) hx hb dX11_partner_123 (by decide) ?_
              refine lv_isub hx hb dX11_partner_124 ?_
              refine lv_topi (fun f_40 ef_40 => ?_)
              obtain rfl : f_40 = 0 := by rw [ef_40]; decide
              have hPc := hP.sub (ws' := [(xa, .inr (11, [.ref x0, .int 0, .ref x2, .int 1, .ref x4, .ref x5, .ref x6, .int x7, .ref x8, .int x9, .int x10]))]) [0] rfl
              have hDc := hD.sub (ws' := [(xa, .inr (11, [.ref x0, .int 0, .ref x2, .int 1, .ref x4, .ref x5, .ref x6, .int x7, .ref x8, .int x9, .int x10]))]) [0] (by decide) rfl
              have hKc := hK.sub (tys' := []) [] rfl
              have hFc := va_free (wc := [(xa, .inr (11, [.ref x0, .int 0, .ref x2, .int 1, .ref x4, .ref x5, .ref x6, .int x7, .ref x8, .int x9, .int x10]))]) hD hS hA [0] rfl
              refine va_calli (va_runV (As := [.int 0]) (rest := []) ⟨hx, hb, hml, hown, hg⟩ (k_accept l D H_39.size xa x0 0 x2 1 x4 x5 x6 x7 x8 x9 x10 0) (cwV 1 hg (gV wd_39 wd_40 wd_41 wd_5 wd_42) rfl rfl rfl (by decide +kernel) ⟨(Nat.le_of_ble_eq_true rfl), (Nat.le_of_ble_eq_true rfl)⟩) ⟨Pr.blind, va_recv hKc hPc (ci := 11) (q0 := 0) rfl rfl, fun U hU hW => ⟨rfl, Pr.at hPc hKc hDc hN hU hW⟩⟩ rfl rfl hl.1 rfl (lv_room (Nat.le_of_ble_eq_true rfl)) dX11_partner_125 ⟨(Nat.le_of_ble_eq_true rfl), (Nat.le_of_ble_eq_true rfl)⟩) hS (fun q _ h => hFc q h) hFc (fun r_42 u t H_41 locs ht hvm hw hB hz1 hk1 hS => ?_)
              obtain ⟨hP1, hK1, hD1⟩ := hB
              rw [ht] at hP1
              have hK1 := va_K.moved hvm.symm hK1
              obtain ⟨hP, hD⟩ := va_join (wr := [(x2, .inl (ca, 40, .inr (.inr (.inr (.inr (va_up (fun _ => none) (0 : Int32).toNatClampNeg (some q_33))))))), (q_33, .inr (4, [.int 0, .int k1, .int k2, .null]))]) (w1 := [(xa, .inr (11, [.ref x0, .int 0, .ref x2, .int 1, .ref x4, .ref x5, .ref x6, .int x7, .ref x8, .int 0, .int (-1)]))]) hP hD [0] [1, 2] rfl rfl (by decide) (by decide) hk1 hFc hP1 hD1
              have hP : va_P D vwCl [(x2, .inl (ca, 40, .inr (.inr (.inr (.inr (va_up (fun _ => none) (0 : Int32).toNatClampNeg (some q_33))))))), (q_33, .inr (4, [.int 0, .int k1, .int k2, .null])), (xa, .inr (11, [.ref x0, .int 0, .ref x2, .int 1, .ref x4, .ref x5, .ref x6, .int x7, .ref x8, .int 0, .int (-1)]))] H_41 := hP
              have hD : va_D A [(x2, .inl (ca, 40, .inr (.inr (.inr (.inr (va_up (fun _ => none) (0 : Int32).toNatClampNeg (some q_33))))))), (q_33, .inr (4, [.int 0, .int k1, .int k2, .null])), (xa, .inr (11, [.ref x0, .int 0, .ref x2, .int 1, .ref x4, .ref x5, .ref x6, .int x7, .ref x8, .int 0, .int (-1)]))] := hD
              subst hw
              exact W.iret (v := 0) hx hb hr (fun t ht hW => ⟨⟨0, (), rfl, by simp [ansPartner, le6, c_1, c_4, c_7, c_26, c_29, c_30, c_31], trivial⟩, hS.F ht⟩) hS.2.2 dX11_partner_128
            · refine lv_aload_n hx hb dX11_partner_44 rfl (lv_at hl 0 rfl) ?_
              refine lv_iload_n hx hb dX11_partner_45 rfl (lv_at hl 2 rfl) ?_
              have hPc := hP.sub (ws' := [(xa, .inr (11, [.ref x0, .int 0, .ref x2, .int 0, .ref x4, .ref x5, .ref x6, .int x7, .ref x8, .int x9, .int x10]))]) [0] rfl
              have hDc := hD.sub (ws' := [(xa, .inr (11, [.ref x0, .int 0, .ref x2, .int 0, .ref x4, .ref x5, .ref x6, .int x7, .ref x8, .int x9, .int x10]))]) [0] (by decide) rfl
              have hKc := hK.sub (tys' := []) [] rfl
              have hFc := va_free (wc := [(xa, .inr (11, [.ref x0, .int 0, .ref x2, .int 0, .ref x4, .ref x5, .ref x6, .int x7, .ref x8, .int x9, .int x10]))]) hD hS hA [0] rfl
              refine va_callq (va_runV (As := [.int k2]) (rest := []) ⟨hx, hb, hml, hown, hg⟩ (k_houseAt0 l D H_5.size xa x0 x2 x4 x5 x6 x7 x8 x9 x10 k2) (cwV 1 hg (gV wd_10 wd_11 wd_12 wd_5 wd_13) rfl rfl rfl (by decide +kernel) ⟨(Nat.le_of_ble_eq_true rfl), (Nat.le_of_ble_eq_true rfl)⟩) ⟨Pr.blind, va_recv hKc hPc (ci := 11) (q0 := 0) rfl rfl, fun U hU hW => ⟨rfl, Pr.at hPc hKc hDc hN hU hW⟩⟩ rfl rfl hl.1 rfl (lv_room (Nat.le_of_ble_eq_true rfl)) dX11_partner_46 ⟨(Nat.le_of_ble_eq_true rfl), (Nat.le_of_ble_eq_true rfl)⟩) hS (fun q _ h => hFc q h) hFc (fun r_44 u t H_43 locs ht hvm hw hB hz1 hk1 hS => ?_)
              obtain ⟨hP1, hK1, hD1⟩ := hB
              rw [ht] at hP1
              have hK1 := va_K.moved hvm.symm hK1
              obtain ⟨hP, hD⟩ := va_join (wr := [(x2, .inl (ca, 40, .inr (.inr (.inr (.inr (fun _ => none))))))]) (w1 := [(xa, .inr (11, [.ref x0, .int 0, .ref x2, .int 0, .ref x4, .ref x5, .ref x6, .int x7, .ref x8, .int x9, .int x10]))]) hP hD [0] [1] rfl rfl (by decide) (by decide) hk1 hFc hP1 hD1
              have hP : va_P D vwCl [(x2, .inl (ca, 40, .inr (.inr (.inr (.inr (fun _ => none)))))), (xa, .inr (11, [.ref x0, .int 0, .ref x2, .int 0, .ref x4, .ref x5, .ref x6, .int x7, .ref x8, .int x9, .int x10]))] H_43 := hP
              have hD : va_D A [(x2, .inl (ca, 40, .inr (.inr (.inr (.inr (fun _ => none)))))), (xa, .inr (11, [.ref x0, .int 0, .ref x2, .int 0, .ref x4, .ref x5, .ref x6, .int x7, .ref x8, .int x9, .int x10]))] := hD
              subst hw
              refine lv_goto (tgt := 53) hx hb dX11_partner_49 (by decide) ?_
              refine lv_astore_nN (lv' := [(3, .null), (0, .ref xa), (1, .int k1), (2, .int k2)]) hx hb dX11_partner_53 rfl hl (by decide) rfl (fun ls hl => ?_)
              refine lv_iload_n hx hb dX11_partner_54 rfl (lv_at hl 2 rfl) ?_
              refine lv_iconst (v := 5) hx hb dX11_partner_55 (by decide) ?_
              refine lv_icmp_ne (tgt := 69) hx hb dX11_partner_56 (by decide) (fun c_45 => absurd c_30 c_45) (fun c_45 => ?_)
              refine lv_aload_nN hx hb dX11_partner_59 rfl (lv_at hl 0 rfl) ?_
              refine lv_ifnonnullN hx hb dX11_partner_60 ?_
              refine lv_aload_n hx hb dX11_partner_63 rfl (lv_at hl 1 rfl) ?_
              refine lv_iconst (v := 1) hx hb dX11_partner_64 (by decide) ?_
              have hPc := hP.sub (ws' := [(xa, .inr (11, [.ref x0, .int 0, .ref x2, .int 0, .ref x4, .ref x5, .ref x6, .int x7, .ref x8, .int x9, .int x10]))]) [1] rfl
              have hDc := hD.sub (ws' := [(xa, .inr (11, [.ref x0, .int 0, .ref x2, .int 0, .ref x4, .ref x5, .ref x6, .int x7, .ref x8, .int x9, .int x10]))]) [1] (by decide) rfl
              have hKc := hK.sub (tys' := []) [] rfl
              have hFc := va_free (wc := [(xa, .inr (11, [.ref x0, .int 0, .ref x2, .int 0, .ref x4, .ref x5, .ref x6, .int x7, .ref x8, .int x9, .int x10]))]) hD hS hA [1] rfl
              refine va_calli (va_runV (As := [.int 1]) (rest := []) ⟨hx, hb, hml, hown, hg⟩ (k_refuse l D H_43.size xa x0 0 x2 0 x4 x5 x6 x7 x8 x9 x10 1) (cwV 1 hg (gV wd_14 wd_15 wd_16 wd_5 wd_17) rfl rfl rfl (by decide +kernel) ⟨(Nat.le_of_ble_eq_true rfl), (Nat.le_of_ble_eq_true rfl)⟩) ⟨Pr.blind, va_recv hKc hPc (ci := 11) (q0 := 0) rfl rfl, fun U hU hW => ⟨rfl, Pr.at hPc hKc hDc hN hU hW⟩⟩ rfl rfl hl.1 rfl (lv_room (Nat.le_of_ble_eq_true rfl)) dX11_partner_65 ⟨(Nat.le_of_ble_eq_true rfl), (Nat.le_of_ble_eq_true rfl)⟩) hS (fun q _ h => hFc q h) hFc (fun r_47 u t H_46 locs ht hvm hw hB hz1 hk1 hS => ?_)
              obtain ⟨hP1, hK1, hD1⟩ := hB
              rw [ht] at hP1
              have hK1 := va_K.moved hvm.symm hK1
              obtain ⟨hP, hD⟩ := va_join (wr := [(x2, .inl (ca, 40, .inr (.inr (.inr (.inr (fun _ => none))))))]) (w1 := [(xa, .inr (11, [.ref x0, .int 0, .ref x2, .int 0, .ref x4, .ref x5, .ref x6, .int x7, .ref x8, .int 1, .int (-1)]))]) hP hD [1] [0] rfl rfl (by decide) (by decide) hk1 hFc hP1 hD1
              have hP : va_P D vwCl [(x2, .inl (ca, 40, .inr (.inr (.inr (.inr (fun _ => none)))))), (xa, .inr (11, [.ref x0, .int 0, .ref x2, .int 0, .ref x4, .ref x5, .ref x6, .int x7, .ref x8, .int 1, .int (-1)]))] H_46 := hP
              have hD : va_D A [(x2, .inl (ca, 40, .inr (.inr (.inr (.inr (fun _ => none)))))), (xa, .inr (11, [.ref x0, .int 0, .ref x2, .int 0, .ref x4, .ref x5, .ref x6, .int x7, .ref x8, .int 1, .int (-1)]))] := hD
              subst hw
              refine W.widen (k := 1) (n := 4) (Nat.le_of_ble_eq_true rfl) (Nat.le_of_ble_eq_true rfl) ?_
              exact W.iret (v := (-1)) hx hb hr (fun t ht hW => ⟨⟨(-1), (), rfl, by simp [ansPartner, le6, c_1, c_4, c_7, c_26, c_29, c_30, c_45], trivial⟩, hS.F ht⟩) hS.2.2 dX11_partner_68
          · refine lv_aload_n hx hb dX11_partner_33 rfl (lv_at hl 0 rfl) ?_
            refine lv_iconst (v := 2) hx hb dX11_partner_34 (by decide) ?_
            have hPc := hP.sub (ws' := [(xa, .inr (11, [.ref x0, .int 0, .ref x2, .int 0, .ref x4, .ref x5, .ref x6, .int x7, .ref x8, .int x9, .int x10]))]) [0] rfl
            have hDc := hD.sub (ws' := [(xa, .inr (11, [.ref x0, .int 0, .ref x2, .int 0, .ref x4, .ref x5, .ref x6, .int x7, .ref x8, .int x9, .int x10]))]) [0] (by decide) rfl
            have hKc := hK.sub (tys' := []) [] rfl
            have hFc := va_free (wc := [(xa, .inr (11, [.ref x0, .int 0, .ref x2, .int 0, .ref x4, .ref x5, .ref x6, .int x7, .ref x8, .int x9, .int x10]))]) hD hS hA [0] rfl
            refine va_calli (va_runV (As := [.int 2]) (rest := []) ⟨hx, hb, hml, hown, hg⟩ (k_refuse l D H_5.size xa x0 0 x2 0 x4 x5 x6 x7 x8 x9 x10 2) (cwV 1 hg (gV wd_14 wd_15 wd_16 wd_5 wd_17) rfl rfl rfl (by decide +kernel) ⟨(Nat.le_of_ble_eq_true rfl), (Nat.le_of_ble_eq_true rfl)⟩) ⟨Pr.blind, va_recv hKc hPc (ci := 11) (q0 := 0) rfl rfl, fun U hU hW => ⟨rfl, Pr.at hPc hKc hDc hN hU hW⟩⟩ rfl rfl hl.1 rfl (lv_room (Nat.le_of_ble_eq_true rfl)) dX11_partner_35 ⟨(Nat.le_of_ble_eq_true rfl), (Nat.le_of_ble_eq_true rfl)⟩) hS (fun q _ h => hFc q h) hFc (fun r_49 u t H_48 locs ht hvm hw hB hz1 hk1 hS => ?_)
            obtain ⟨hP1, hK1, hD1⟩ := hB
            rw [ht] at hP1
            have hK1 := va_K.moved hvm.symm hK1
            obtain ⟨hP, hD⟩ := va_join (wr := [(x2, .inl (ca, 40, .inr (.inr (.inr (.inr (fun _ => none))))))]) (w1 := [(xa, .inr (11, [.ref x0, .int 0, .ref x2, .int 0, .ref x4, .ref x5, .ref x6, .int x7, .ref x8, .int 2, .int (-1)]))]) hP hD [0] [1] rfl rfl (by decide) (by decide) hk1 hFc hP1 hD1
            have hP : va_P D vwCl [(x2, .inl (ca, 40, .inr (.inr (.inr (.inr (fun _ => none)))))), (xa, .inr (11, [.ref x0, .int 0, .ref x2, .int 0, .ref x4, .ref x5, .ref x6, .int x7, .ref x8, .int 2, .int (-1)]))] H_48 := hP
            have hD : va_D A [(x2, .inl (ca, 40, .inr (.inr (.inr (.inr (fun _ => none)))))), (xa, .inr (11, [.ref x0, .int 0, .ref x2, .int 0, .ref x4, .ref x5, .ref x6, .int x7, .ref x8, .int 2, .int (-1)]))] := hD
            subst hw
            refine W.widen (k := 1) (n := 4) (Nat.le_of_ble_eq_true rfl) (Nat.le_of_ble_eq_true rfl) ?_
            exact W.iret (v := (-1)) hx hb hr (fun t ht hW => ⟨⟨(-1), (), rfl, by simp [ansPartner, le6, c_1, c_4, c_7, c_26, c_29], trivial⟩, hS.F ht⟩) hS.2.2 dX11_partner_38
    · refine lv_aload_n hx hb dX11_partner_10 rfl (lv_at hl 0 rfl) ?_
      refine lv_iconst (v := 2) hx hb dX11_partner_11 (by decide) ?_
      have hPc := hP.sub (ws' := [(xa, .inr (11, [.ref x0, .int 0, .ref x2, .int 0, .ref x4, .ref x5, .ref x6, .int x7, .ref x8, .int x9, .int x10]))]) [0] rfl
      have hDc := hD.sub (ws' := [(xa, .inr (11, [.ref x0, .int 0, .ref x2, .int 0, .ref x4, .ref x5, .ref x6, .int x7, .ref x8, .int x9, .int x10]))]) [0] (by decide) rfl
      have hKc := hK.sub (tys' := []) [] rfl
      have hFc := va_free (wc := [(xa, .inr (11, [.ref x0, .int 0, .ref x2, .int 0, .ref x4, .ref x5, .ref x6, .int x7, .ref x8, .int x9, .int x10]))]) hD hS hA [0] rfl
      refine va_calli (va_runV (As := [.int 2]) (rest := []) ⟨hx, hb, hml, hown, hg⟩ (k_refuse l D s.heap.size xa x0 0 x2 0 x4 x5 x6 x7 x8 x9 x10 2) (cwV 1 hg (gV wd_14 wd_15 wd_16 wd_5 wd_17) rfl rfl rfl (by decide +kernel) ⟨(Nat.le_of_ble_eq_true rfl), (Nat.le_of_ble_eq_true rfl)⟩) ⟨Pr.blind, va_recv hKc hPc (ci := 11) (q0 := 0) rfl rfl, fun U hU hW => ⟨rfl, Pr.at hPc hKc hDc hN hU hW⟩⟩ rfl rfl hl.1 rfl (lv_room (Nat.le_of_ble_eq_true rfl)) dX11_partner_12 ⟨(Nat.le_of_ble_eq_true rfl), (Nat.le_of_ble_eq_true rfl)⟩) hS (fun q _ h => hFc q h) hFc (fun r_51 u t H_50 locs ht hvm hw hB hz1 hk1 hS => ?_)
      obtain ⟨hP1, hK1, hD1⟩ := hB
      rw [ht] at hP1
      have hK1 := va_K.moved hvm.symm hK1
      obtain ⟨hP, hD⟩ := va_join (wr := [(x2, .inl (ca, 40, .inr (.inr (.inr (.inr (fun _ => none))))))]) (w1 := [(xa, .inr (11, [.ref x0, .int 0, .ref x2, .int 0, .ref x4, .ref x5, .ref x6, .int x7, .ref x8, .int 2, .int (-1)]))]) hP hD [0] [1] rfl rfl (by decide) (by decide) hk1 hFc hP1 hD1
      have hP : va_P D vwCl [(x2, .inl (ca, 40, .inr (.inr (.inr (.inr (fun _ => none)))))), (xa, .inr (11, [.ref x0, .int 0, .ref x2, .int 0, .ref x4, .ref x5, .ref x6, .int x7, .ref x8, .int 2, .int (-1)]))] H_50 := hP
      have hD : va_D A [(x2, .inl (ca, 40, .inr (.inr (.inr (.inr (fun _ => none)))))), (xa, .inr (11, [.ref x0, .int 0, .ref x2, .int 0, .ref x4, .ref x5, .ref x6, .int x7, .ref x8, .int 2, .int (-1)]))] := hD
      subst hw
      refine W.widen (k := 1) (n := 4) (Nat.le_of_ble_eq_true rfl) (Nat.le_of_ble_eq_true rfl) ?_
      exact W.iret (v := (-1)) hx hb hr (fun t ht hW => ⟨⟨(-1), (), rfl, by simp [ansPartner, le6, c_1, c_4], trivial⟩, hS.F ht⟩) hS.2.2 dX11_partner_15
