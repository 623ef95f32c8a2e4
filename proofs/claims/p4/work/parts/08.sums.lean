theorem dX1_isFull_0 : decode cX1_isFull 0 = .ok (.aload_n 0, 1) := by decide +kernel
theorem dX1_isFull_1 : decode cX1_isFull 1 = .ok (.getfield 28, 3) := by decide +kernel
theorem dX1_isFull_4 : decode cX1_isFull 4 = .ok (.aload_n 0, 1) := by decide +kernel
theorem dX1_isFull_5 : decode cX1_isFull 5 = .ok (.getfield 21, 3) := by decide +kernel
theorem dX1_isFull_8 : decode cX1_isFull 8 = .ok (.arraylength, 1) := by decide +kernel
theorem dX1_isFull_9 : decode cX1_isFull 9 = .ok (.if_icmp .lt 7, 3) := by decide +kernel
theorem dX1_isFull_12 : decode cX1_isFull 12 = .ok (.iconst 1, 1) := by decide +kernel
theorem dX1_isFull_13 : decode cX1_isFull 13 = .ok (.goto 4, 3) := by decide +kernel
theorem dX1_isFull_16 : decode cX1_isFull 16 = .ok (.iconst 0, 1) := by decide +kernel
theorem dX1_isFull_17 : decode cX1_isFull 17 = .ok (.ireturn, 1) := by decide +kernel
theorem dX1_append_0 : decode cX1_append 0 = .ok (.aload_n 0, 1) := by decide +kernel
theorem dX1_append_1 : decode cX1_append 1 = .ok (.invokevirtual 32, 3) := by decide +kernel
theorem dX1_append_4 : decode cX1_append 4 = .ok (.ifCond .ne 43, 3) := by decide +kernel
theorem dX1_append_7 : decode cX1_append 7 = .ok (.aload_n 0, 1) := by decide +kernel
theorem dX1_append_8 : decode cX1_append 8 = .ok (.getfield 15, 3) := by decide +kernel
theorem dX1_append_11 : decode cX1_append 11 = .ok (.aload_n 0, 1) := by decide +kernel
theorem dX1_append_12 : decode cX1_append 12 = .ok (.getfield 28, 3) := by decide +kernel
theorem dX1_append_15 : decode cX1_append 15 = .ok (.aload_n 1, 1) := by decide +kernel
theorem dX1_append_16 : decode cX1_append 16 = .ok (.aastore, 1) := by decide +kernel
theorem dX1_append_17 : decode cX1_append 17 = .ok (.aload_n 0, 1) := by decide +kernel
theorem dX1_append_18 : decode cX1_append 18 = .ok (.getfield 21, 3) := by decide +kernel
theorem dX1_append_21 : decode cX1_append 21 = .ok (.aload_n 0, 1) := by decide +kernel
theorem dX1_append_22 : decode cX1_append 22 = .ok (.getfield 28, 3) := by decide +kernel
theorem dX1_append_25 : decode cX1_append 25 = .ok (.iload_n 2, 1) := by decide +kernel
theorem dX1_append_26 : decode cX1_append 26 = .ok (.iastore, 1) := by decide +kernel
theorem dX1_append_27 : decode cX1_append 27 = .ok (.aload_n 0, 1) := by decide +kernel
theorem dX1_append_28 : decode cX1_append 28 = .ok (.getfield 25, 3) := by decide +kernel
theorem dX1_append_31 : decode cX1_append 31 = .ok (.aload_n 0, 1) := by decide +kernel
theorem dX1_append_32 : decode cX1_append 32 = .ok (.getfield 28, 3) := by decide +kernel
theorem dX1_append_35 : decode cX1_append 35 = .ok (.iload_n 3, 1) := by decide +kernel
theorem dX1_append_36 : decode cX1_append 36 = .ok (.iastore, 1) := by decide +kernel
theorem dX1_append_37 : decode cX1_append 37 = .ok (.aload_n 0, 1) := by decide +kernel
theorem dX1_append_38 : decode cX1_append 38 = .ok (.dup, 1) := by decide +kernel
theorem dX1_append_39 : decode cX1_append 39 = .ok (.getfield 28, 3) := by decide +kernel
theorem dX1_append_42 : decode cX1_append 42 = .ok (.iconst 1, 1) := by decide +kernel
theorem dX1_append_43 : decode cX1_append 43 = .ok (.iadd, 1) := by decide +kernel
theorem dX1_append_44 : decode cX1_append 44 = .ok (.putfield 28, 3) := by decide +kernel
theorem dX1_append_47 : decode cX1_append 47 = .ok (.return_, 1) := by decide +kernel
theorem dX1_dropLatest_0 : decode cX1_dropLatest 0 = .ok (.aload_n 0, 1) := by decide +kernel
theorem dX1_dropLatest_1 : decode cX1_dropLatest 1 = .ok (.getfield 28, 3) := by decide +kernel
theorem dX1_dropLatest_4 : decode cX1_dropLatest 4 = .ok (.ifCond .le 13, 3) := by decide +kernel
theorem dX1_dropLatest_7 : decode cX1_dropLatest 7 = .ok (.aload_n 0, 1) := by decide +kernel
theorem dX1_dropLatest_8 : decode cX1_dropLatest 8 = .ok (.dup, 1) := by decide +kernel
theorem dX1_dropLatest_9 : decode cX1_dropLatest 9 = .ok (.getfield 28, 3) := by decide +kernel
theorem dX1_dropLatest_12 : decode cX1_dropLatest 12 = .ok (.iconst 1, 1) := by decide +kernel
theorem dX1_dropLatest_13 : decode cX1_dropLatest 13 = .ok (.isub, 1) := by decide +kernel
theorem dX1_dropLatest_14 : decode cX1_dropLatest 14 = .ok (.putfield 28, 3) := by decide +kernel
theorem dX1_dropLatest_17 : decode cX1_dropLatest 17 = .ok (.return_, 1) := by decide +kernel
theorem dX1_bookUpTo_0 : decode cX1_bookUpTo 0 = .ok (.iconst 0, 1) := by decide +kernel
theorem dX1_bookUpTo_1 : decode cX1_bookUpTo 1 = .ok (.istore_n 2, 1) := by decide +kernel
theorem dX1_bookUpTo_2 : decode cX1_bookUpTo 2 = .ok (.iconst 0, 1) := by decide +kernel
theorem dX1_bookUpTo_3 : decode cX1_bookUpTo 3 = .ok (.istore_n 3, 1) := by decide +kernel
theorem dX1_bookUpTo_4 : decode cX1_bookUpTo 4 = .ok (.iload_n 3, 1) := by decide +kernel
theorem dX1_bookUpTo_5 : decode cX1_bookUpTo 5 = .ok (.aload_n 0, 1) := by decide +kernel
theorem dX1_bookUpTo_6 : decode cX1_bookUpTo 6 = .ok (.getfield 28, 3) := by decide +kernel
theorem dX1_bookUpTo_9 : decode cX1_bookUpTo 9 = .ok (.if_icmp .ge 87, 3) := by decide +kernel
theorem dX1_bookUpTo_12 : decode cX1_bookUpTo 12 = .ok (.aload_n 0, 1) := by decide +kernel
theorem dX1_bookUpTo_13 : decode cX1_bookUpTo 13 = .ok (.getfield 15, 3) := by decide +kernel
theorem dX1_bookUpTo_16 : decode cX1_bookUpTo 16 = .ok (.iload_n 3, 1) := by decide +kernel
theorem dX1_bookUpTo_17 : decode cX1_bookUpTo 17 = .ok (.aaload, 1) := by decide +kernel
theorem dX1_bookUpTo_18 : decode cX1_bookUpTo 18 = .ok (.astore 4, 2) := by decide +kernel
theorem dX1_bookUpTo_20 : decode cX1_bookUpTo 20 = .ok (.aload 4, 2) := by decide +kernel
theorem dX1_bookUpTo_22 : decode cX1_bookUpTo 22 = .ok (.ifnull 33, 3) := by decide +kernel
theorem dX1_bookUpTo_25 : decode cX1_bookUpTo 25 = .ok (.aload_n 0, 1) := by decide +kernel
theorem dX1_bookUpTo_26 : decode cX1_bookUpTo 26 = .ok (.getfield 21, 3) := by decide +kernel
theorem dX1_bookUpTo_29 : decode cX1_bookUpTo 29 = .ok (.iload_n 3, 1) := by decide +kernel
theorem dX1_bookUpTo_30 : decode cX1_bookUpTo 30 = .ok (.iaload, 1) := by decide +kernel
theorem dX1_bookUpTo_31 : decode cX1_bookUpTo 31 = .ok (.iload_n 1, 1) := by decide +kernel
theorem dX1_bookUpTo_32 : decode cX1_bookUpTo 32 = .ok (.if_icmp .gt 23, 3) := by decide +kernel
theorem dX1_bookUpTo_35 : decode cX1_bookUpTo 35 = .ok (.aload 4, 2) := by decide +kernel
theorem dX1_bookUpTo_37 : decode cX1_bookUpTo 37 = .ok (.dup, 1) := by decide +kernel
theorem dX1_bookUpTo_38 : decode cX1_bookUpTo 38 = .ok (.getfield 36, 3) := by decide +kernel
theorem dX1_bookUpTo_41 : decode cX1_bookUpTo 41 = .ok (.aload_n 0, 1) := by decide +kernel
theorem dX1_bookUpTo_42 : decode cX1_bookUpTo 42 = .ok (.getfield 25, 3) := by decide +kernel
theorem dX1_bookUpTo_45 : decode cX1_bookUpTo 45 = .ok (.iload_n 3, 1) := by decide +kernel
theorem dX1_bookUpTo_46 : decode cX1_bookUpTo 46 = .ok (.iaload, 1) := by decide +kernel
theorem dX1_bookUpTo_47 : decode cX1_bookUpTo 47 = .ok (.i2l, 1) := by decide +kernel
theorem dX1_bookUpTo_48 : decode cX1_bookUpTo 48 = .ok (.ladd, 1) := by decide +kernel
theorem dX1_bookUpTo_49 : decode cX1_bookUpTo 49 = .ok (.putfield 36, 3) := by decide +kernel
theorem dX1_bookUpTo_52 : decode cX1_bookUpTo 52 = .ok (.goto 38, 3) := by decide +kernel
theorem dX1_bookUpTo_55 : decode cX1_bookUpTo 55 = .ok (.aload_n 0, 1) := by decide +kernel
theorem dX1_bookUpTo_56 : decode cX1_bookUpTo 56 = .ok (.getfield 15, 3) := by decide +kernel
theorem dX1_bookUpTo_59 : decode cX1_bookUpTo 59 = .ok (.iload_n 2, 1) := by decide +kernel
theorem dX1_bookUpTo_60 : decode cX1_bookUpTo 60 = .ok (.aload 4, 2) := by decide +kernel
theorem dX1_bookUpTo_62 : decode cX1_bookUpTo 62 = .ok (.aastore, 1) := by decide +kernel
theorem dX1_bookUpTo_63 : decode cX1_bookUpTo 63 = .ok (.aload_n 0, 1) := by decide +kernel
theorem dX1_bookUpTo_64 : decode cX1_bookUpTo 64 = .ok (.getfield 21, 3) := by decide +kernel
theorem dX1_bookUpTo_67 : decode cX1_bookUpTo 67 = .ok (.iload_n 2, 1) := by decide +kernel
theorem dX1_bookUpTo_68 : decode cX1_bookUpTo 68 = .ok (.aload_n 0, 1) := by decide +kernel
theorem dX1_bookUpTo_69 : decode cX1_bookUpTo 69 = .ok (.getfield 21, 3) := by decide +kernel
theorem dX1_bookUpTo_72 : decode cX1_bookUpTo 72 = .ok (.iload_n 3, 1) := by decide +kernel
theorem dX1_bookUpTo_73 : decode cX1_bookUpTo 73 = .ok (.iaload, 1) := by decide +kernel
theorem dX1_bookUpTo_74 : decode cX1_bookUpTo 74 = .ok (.iastore, 1) := by decide +kernel
theorem dX1_bookUpTo_75 : decode cX1_bookUpTo 75 = .ok (.aload_n 0, 1) := by decide +kernel
theorem dX1_bookUpTo_76 : decode cX1_bookUpTo 76 = .ok (.getfield 25, 3) := by decide +kernel
theorem dX1_bookUpTo_79 : decode cX1_bookUpTo 79 = .ok (.iload_n 2, 1) := by decide +kernel
theorem dX1_bookUpTo_80 : decode cX1_bookUpTo 80 = .ok (.aload_n 0, 1) := by decide +kernel
theorem dX1_bookUpTo_81 : decode cX1_bookUpTo 81 = .ok (.getfield 25, 3) := by decide +kernel
theorem dX1_bookUpTo_84 : decode cX1_bookUpTo 84 = .ok (.iload_n 3, 1) := by decide +kernel
theorem dX1_bookUpTo_85 : decode cX1_bookUpTo 85 = .ok (.iaload, 1) := by decide +kernel
theorem dX1_bookUpTo_86 : decode cX1_bookUpTo 86 = .ok (.iastore, 1) := by decide +kernel
theorem dX1_bookUpTo_87 : decode cX1_bookUpTo 87 = .ok (.iinc 2 1, 3) := by decide +kernel
theorem dX1_bookUpTo_90 : decode cX1_bookUpTo 90 = .ok (.iinc 3 1, 3) := by decide +kernel
theorem dX1_bookUpTo_93 : decode cX1_bookUpTo 93 = .ok (.goto (-89), 3) := by decide +kernel
theorem dX1_bookUpTo_96 : decode cX1_bookUpTo 96 = .ok (.aload_n 0, 1) := by decide +kernel
theorem dX1_bookUpTo_97 : decode cX1_bookUpTo 97 = .ok (.iload_n 2, 1) := by decide +kernel
theorem dX1_bookUpTo_98 : decode cX1_bookUpTo 98 = .ok (.putfield 28, 3) := by decide +kernel
theorem dX1_bookUpTo_101 : decode cX1_bookUpTo 101 = .ok (.return_, 1) := by decide +kernel
theorem dX2_termOn_0 : decode cX2_termOn 0 = .ok (.aload_n 0, 1) := by decide +kernel
theorem dX2_termOn_1 : decode cX2_termOn 1 = .ok (.iload_n 1, 1) := by decide +kernel
theorem dX2_termOn_2 : decode cX2_termOn 2 = .ok (.invokevirtual 127, 3) := by decide +kernel
theorem dX2_termOn_5 : decode cX2_termOn 5 = .ok (.astore 4, 2) := by decide +kernel
theorem dX2_termOn_7 : decode cX2_termOn 7 = .ok (.aload 4, 2) := by decide +kernel
theorem dX2_termOn_9 : decode cX2_termOn 9 = .ok (.ifnonnull 7, 3) := by decide +kernel
theorem dX2_termOn_12 : decode cX2_termOn 12 = .ok (.iconst 0, 1) := by decide +kernel
theorem dX2_termOn_13 : decode cX2_termOn 13 = .ok (.goto 10, 3) := by decide +kernel
theorem dX2_termOn_16 : decode cX2_termOn 16 = .ok (.aload 4, 2) := by decide +kernel
theorem dX2_termOn_18 : decode cX2_termOn 18 = .ok (.iload_n 3, 1) := by decide +kernel
theorem dX2_termOn_19 : decode cX2_termOn 19 = .ok (.iload_n 2, 1) := by decide +kernel
theorem dX2_termOn_20 : decode cX2_termOn 20 = .ok (.invokevirtual 131, 3) := by decide +kernel
theorem dX2_termOn_23 : decode cX2_termOn 23 = .ok (.ireturn, 1) := by decide +kernel
theorem dX6_termOf_0 : decode cX6_termOf 0 = .ok (.iload_n 1, 1) := by decide +kernel
theorem dX6_termOf_1 : decode cX6_termOf 1 = .ok (.iload_n 2, 1) := by decide +kernel
theorem dX6_termOf_2 : decode cX6_termOf 2 = .ok (.invokestatic 28, 3) := by decide +kernel
theorem dX6_termOf_5 : decode cX6_termOf 5 = .ok (.ifCond .eq 17, 3) := by decide +kernel
theorem dX6_termOf_8 : decode cX6_termOf 8 = .ok (.aload_n 0, 1) := by decide +kernel
theorem dX6_termOf_9 : decode cX6_termOf 9 = .ok (.getfield 15, 3) := by decide +kernel
theorem dX6_termOf_12 : decode cX6_termOf 12 = .ok (.iload_n 2, 1) := by decide +kernel
theorem dX6_termOf_13 : decode cX6_termOf 13 = .ok (.bipush 6, 2) := by decide +kernel
theorem dX6_termOf_15 : decode cX6_termOf 15 = .ok (.imul, 1) := by decide +kernel
theorem dX6_termOf_16 : decode cX6_termOf 16 = .ok (.iload_n 1, 1) := by decide +kernel
theorem dX6_termOf_17 : decode cX6_termOf 17 = .ok (.iadd, 1) := by decide +kernel
theorem dX6_termOf_18 : decode cX6_termOf 18 = .ok (.iaload, 1) := by decide +kernel
theorem dX6_termOf_19 : decode cX6_termOf 19 = .ok (.goto 4, 3) := by decide +kernel
theorem dX6_termOf_22 : decode cX6_termOf 22 = .ok (.iconst 0, 1) := by decide +kernel
theorem dX6_termOf_23 : decode cX6_termOf 23 = .ok (.ireturn, 1) := by decide +kernel
theorem dX6_replace_0 : decode cX6_replace 0 = .ok (.aload_n 0, 1) := by decide +kernel
theorem dX6_replace_1 : decode cX6_replace 1 = .ok (.getfield 19, 3) := by decide +kernel
theorem dX6_replace_4 : decode cX6_replace 4 = .ok (.istore 4, 2) := by decide +kernel
theorem dX6_replace_6 : decode cX6_replace 6 = .ok (.iload_n 2, 1) := by decide +kernel
theorem dX6_replace_7 : decode cX6_replace 7 = .ok (.iconst 4, 1) := by decide +kernel
theorem dX6_replace_8 : decode cX6_replace 8 = .ok (.if_icmp .ne 11, 3) := by decide +kernel
theorem dX6_replace_11 : decode cX6_replace 11 = .ok (.aload_n 0, 1) := by decide +kernel
theorem dX6_replace_12 : decode cX6_replace 12 = .ok (.iload_n 3, 1) := by decide +kernel
theorem dX6_replace_13 : decode cX6_replace 13 = .ok (.putfield 19, 3) := by decide +kernel
theorem dX6_replace_16 : decode cX6_replace 16 = .ok (.goto 36, 3) := by decide +kernel
theorem dX6_replace_19 : decode cX6_replace 19 = .ok (.iload_n 1, 1) := by decide +kernel
theorem dX6_replace_20 : decode cX6_replace 20 = .ok (.iload_n 2, 1) := by decide +kernel
theorem dX6_replace_21 : decode cX6_replace 21 = .ok (.invokestatic 28, 3) := by decide +kernel
theorem dX6_replace_24 : decode cX6_replace 24 = .ok (.ifCond .eq 28, 3) := by decide +kernel
theorem dX6_replace_27 : decode cX6_replace 27 = .ok (.aload_n 0, 1) := by decide +kernel
theorem dX6_replace_28 : decode cX6_replace 28 = .ok (.getfield 15, 3) := by decide +kernel
theorem dX6_replace_31 : decode cX6_replace 31 = .ok (.iload_n 2, 1) := by decide +kernel
theorem dX6_replace_32 : decode cX6_replace 32 = .ok (.bipush 6, 2) := by decide +kernel
theorem dX6_replace_34 : decode cX6_replace 34 = .ok (.imul, 1) := by decide +kernel
theorem dX6_replace_35 : decode cX6_replace 35 = .ok (.iload_n 1, 1) := by decide +kernel
theorem dX6_replace_36 : decode cX6_replace 36 = .ok (.iadd, 1) := by decide +kernel
theorem dX6_replace_37 : decode cX6_replace 37 = .ok (.iaload, 1) := by decide +kernel
theorem dX6_replace_38 : decode cX6_replace 38 = .ok (.istore 4, 2) := by decide +kernel
theorem dX6_replace_40 : decode cX6_replace 40 = .ok (.aload_n 0, 1) := by decide +kernel
theorem dX6_replace_41 : decode cX6_replace 41 = .ok (.getfield 15, 3) := by decide +kernel
theorem dX6_replace_44 : decode cX6_replace 44 = .ok (.iload_n 2, 1) := by decide +kernel
theorem dX6_replace_45 : decode cX6_replace 45 = .ok (.bipush 6, 2) := by decide +kernel
theorem dX6_replace_47 : decode cX6_replace 47 = .ok (.imul, 1) := by decide +kernel
theorem dX6_replace_48 : decode cX6_replace 48 = .ok (.iload_n 1, 1) := by decide +kernel
theorem dX6_replace_49 : decode cX6_replace 49 = .ok (.iadd, 1) := by decide +kernel
theorem dX6_replace_50 : decode cX6_replace 50 = .ok (.iload_n 3, 1) := by decide +kernel
theorem dX6_replace_51 : decode cX6_replace 51 = .ok (.iastore, 1) := by decide +kernel
theorem dX6_replace_52 : decode cX6_replace 52 = .ok (.iload 4, 2) := by decide +kernel
theorem dX6_replace_54 : decode cX6_replace 54 = .ok (.ireturn, 1) := by decide +kernel
theorem dX9_payOut_0 : decode cX9_payOut 0 = .ok (.aload_n 0, 1) := by decide +kernel
theorem dX9_payOut_1 : decode cX9_payOut 1 = .ok (.getfield 53, 3) := by decide +kernel
theorem dX9_payOut_4 : decode cX9_payOut 4 = .ok (.ifnull 46, 3) := by decide +kernel
theorem dX9_payOut_7 : decode cX9_payOut 7 = .ok (.aload_n 0, 1) := by decide +kernel
theorem dX9_payOut_8 : decode cX9_payOut 8 = .ok (.getfield 53, 3) := by decide +kernel
theorem dX9_payOut_11 : decode cX9_payOut 11 = .ok (.dup, 1) := by decide +kernel
theorem dX9_payOut_12 : decode cX9_payOut 12 = .ok (.getfield 57, 3) := by decide +kernel
theorem dX9_payOut_15 : decode cX9_payOut 15 = .ok (.aload_n 0, 1) := by decide +kernel
theorem dX9_payOut_16 : decode cX9_payOut 16 = .ok (.getfield 57, 3) := by decide +kernel
theorem dX9_payOut_19 : decode cX9_payOut 19 = .ok (.ladd, 1) := by decide +kernel
theorem dX9_payOut_20 : decode cX9_payOut 20 = .ok (.putfield 57, 3) := by decide +kernel
theorem dX9_payOut_23 : decode cX9_payOut 23 = .ok (.aload_n 0, 1) := by decide +kernel
theorem dX9_payOut_24 : decode cX9_payOut 24 = .ok (.getfield 53, 3) := by decide +kernel
theorem dX9_payOut_27 : decode cX9_payOut 27 = .ok (.dup, 1) := by decide +kernel
theorem dX9_payOut_28 : decode cX9_payOut 28 = .ok (.getfield 60, 3) := by decide +kernel
theorem dX9_payOut_31 : decode cX9_payOut 31 = .ok (.aload_n 0, 1) := by decide +kernel
theorem dX9_payOut_32 : decode cX9_payOut 32 = .ok (.getfield 60, 3) := by decide +kernel
theorem dX9_payOut_35 : decode cX9_payOut 35 = .ok (.ladd, 1) := by decide +kernel
theorem dX9_payOut_36 : decode cX9_payOut 36 = .ok (.putfield 60, 3) := by decide +kernel
theorem dX9_payOut_39 : decode cX9_payOut 39 = .ok (.aload_n 0, 1) := by decide +kernel
theorem dX9_payOut_40 : decode cX9_payOut 40 = .ok (.lconst 0, 1) := by decide +kernel
theorem dX9_payOut_41 : decode cX9_payOut 41 = .ok (.putfield 57, 3) := by decide +kernel
theorem dX9_payOut_44 : decode cX9_payOut 44 = .ok (.aload_n 0, 1) := by decide +kernel
theorem dX9_payOut_45 : decode cX9_payOut 45 = .ok (.lconst 0, 1) := by decide +kernel
theorem dX9_payOut_46 : decode cX9_payOut 46 = .ok (.putfield 60, 3) := by decide +kernel
theorem dX9_payOut_49 : decode cX9_payOut 49 = .ok (.return_, 1) := by decide +kernel
theorem dX9_payOut_50 : decode cX9_payOut 50 = .ok (.aload_n 0, 1) := by decide +kernel
theorem dX9_payOut_51 : decode cX9_payOut 51 = .ok (.getfield 57, 3) := by decide +kernel
theorem dX9_payOut_54 : decode cX9_payOut 54 = .ok (.lconst 0, 1) := by decide +kernel
theorem dX9_payOut_55 : decode cX9_payOut 55 = .ok (.lcmp, 1) := by decide +kernel
theorem dX9_payOut_56 : decode cX9_payOut 56 = .ok (.ifCond .le 21, 3) := by decide +kernel
theorem dX9_payOut_59 : decode cX9_payOut 59 = .ok (.aload_n 0, 1) := by decide +kernel
theorem dX9_payOut_60 : decode cX9_payOut 60 = .ok (.dup, 1) := by decide +kernel
theorem dX9_payOut_61 : decode cX9_payOut 61 = .ok (.getfield 63, 3) := by decide +kernel
theorem dX9_payOut_64 : decode cX9_payOut 64 = .ok (.aload_n 0, 1) := by decide +kernel
theorem dX9_payOut_65 : decode cX9_payOut 65 = .ok (.getfield 57, 3) := by decide +kernel
theorem dX9_payOut_68 : decode cX9_payOut 68 = .ok (.ladd, 1) := by decide +kernel
theorem dX9_payOut_69 : decode cX9_payOut 69 = .ok (.putfield 63, 3) := by decide +kernel
theorem dX9_payOut_72 : decode cX9_payOut 72 = .ok (.aload_n 0, 1) := by decide +kernel
theorem dX9_payOut_73 : decode cX9_payOut 73 = .ok (.lconst 0, 1) := by decide +kernel
theorem dX9_payOut_74 : decode cX9_payOut 74 = .ok (.putfield 57, 3) := by decide +kernel
theorem dX9_payOut_77 : decode cX9_payOut 77 = .ok (.aload_n 0, 1) := by decide +kernel
theorem dX9_payOut_78 : decode cX9_payOut 78 = .ok (.dup, 1) := by decide +kernel
theorem dX9_payOut_79 : decode cX9_payOut 79 = .ok (.getfield 63, 3) := by decide +kernel
theorem dX9_payOut_82 : decode cX9_payOut 82 = .ok (.aload_n 0, 1) := by decide +kernel
theorem dX9_payOut_83 : decode cX9_payOut 83 = .ok (.getfield 60, 3) := by decide +kernel
theorem dX9_payOut_86 : decode cX9_payOut 86 = .ok (.ladd, 1) := by decide +kernel
theorem dX9_payOut_87 : decode cX9_payOut 87 = .ok (.putfield 63, 3) := by decide +kernel
theorem dX9_payOut_90 : decode cX9_payOut 90 = .ok (.aload_n 0, 1) := by decide +kernel
theorem dX9_payOut_91 : decode cX9_payOut 91 = .ok (.lconst 0, 1) := by decide +kernel
theorem dX9_payOut_92 : decode cX9_payOut 92 = .ok (.putfield 60, 3) := by decide +kernel
theorem dX9_payOut_95 : decode cX9_payOut 95 = .ok (.aload_n 0, 1) := by decide +kernel
theorem dX9_payOut_96 : decode cX9_payOut 96 = .ok (.getfield 47, 3) := by decide +kernel
theorem dX9_payOut_99 : decode cX9_payOut 99 = .ok (.ifCond .le 48, 3) := by decide +kernel
theorem dX9_payOut_102 : decode cX9_payOut 102 = .ok (.aload_n 0, 1) := by decide +kernel
theorem dX9_payOut_103 : decode cX9_payOut 103 = .ok (.getfield 63, 3) := by decide +kernel
theorem dX9_payOut_106 : decode cX9_payOut 106 = .ok (.aload_n 0, 1) := by decide +kernel
theorem dX9_payOut_107 : decode cX9_payOut 107 = .ok (.getfield 47, 3) := by decide +kernel
theorem dX9_payOut_110 : decode cX9_payOut 110 = .ok (.i2l, 1) := by decide +kernel
theorem dX9_payOut_111 : decode cX9_payOut 111 = .ok (.ldiv, 1) := by decide +kernel
theorem dX9_payOut_112 : decode cX9_payOut 112 = .ok (.lstore_n 1, 1) := by decide +kernel
theorem dX9_payOut_113 : decode cX9_payOut 113 = .ok (.aload_n 0, 1) := by decide +kernel
theorem dX9_payOut_114 : decode cX9_payOut 114 = .ok (.dup, 1) := by decide +kernel
theorem dX9_payOut_115 : decode cX9_payOut 115 = .ok (.getfield 63, 3) := by decide +kernel
theorem dX9_payOut_118 : decode cX9_payOut 118 = .ok (.lload_n 1, 1) := by decide +kernel
theorem dX9_payOut_119 : decode cX9_payOut 119 = .ok (.lsub, 1) := by decide +kernel
theorem dX9_payOut_120 : decode cX9_payOut 120 = .ok (.putfield 63, 3) := by decide +kernel
theorem dX9_payOut_123 : decode cX9_payOut 123 = .ok (.aload_n 0, 1) := by decide +kernel
theorem dX9_payOut_124 : decode cX9_payOut 124 = .ok (.dup, 1) := by decide +kernel
theorem dX9_payOut_125 : decode cX9_payOut 125 = .ok (.getfield 66, 3) := by decide +kernel
theorem dX9_payOut_128 : decode cX9_payOut 128 = .ok (.lload_n 1, 1) := by decide +kernel
theorem dX9_payOut_129 : decode cX9_payOut 129 = .ok (.ladd, 1) := by decide +kernel
theorem dX9_payOut_130 : decode cX9_payOut 130 = .ok (.putfield 66, 3) := by decide +kernel
theorem dX9_payOut_133 : decode cX9_payOut 133 = .ok (.aload_n 0, 1) := by decide +kernel
theorem dX9_payOut_134 : decode cX9_payOut 134 = .ok (.iconst 1, 1) := by decide +kernel
theorem dX9_payOut_135 : decode cX9_payOut 135 = .ok (.aload_n 0, 1) := by decide +kernel
theorem dX9_payOut_136 : decode cX9_payOut 136 = .ok (.getfield 47, 3) := by decide +kernel
theorem dX9_payOut_139 : decode cX9_payOut 139 = .ok (.iconst 1, 1) := by decide +kernel
theorem dX9_payOut_140 : decode cX9_payOut 140 = .ok (.isub, 1) := by decide +kernel
theorem dX9_payOut_141 : decode cX9_payOut 141 = .ok (.invokestatic 69, 3) := by decide +kernel
theorem dX9_payOut_144 : decode cX9_payOut 144 = .ok (.putfield 47, 3) := by decide +kernel
theorem dX9_payOut_147 : decode cX9_payOut 147 = .ok (.return_, 1) := by decide +kernel
theorem dX10_clear_0 : decode cX10_clear 0 = .ok (.aload_n 0, 1) := by decide +kernel
theorem dX10_clear_1 : decode cX10_clear 1 = .ok (.iconst 0, 1) := by decide +kernel
theorem dX10_clear_2 : decode cX10_clear 2 = .ok (.putfield 15, 3) := by decide +kernel
theorem dX10_clear_5 : decode cX10_clear 5 = .ok (.aload_n 0, 1) := by decide +kernel
theorem dX10_clear_6 : decode cX10_clear 6 = .ok (.iconst 0, 1) := by decide +kernel
theorem dX10_clear_7 : decode cX10_clear 7 = .ok (.putfield 19, 3) := by decide +kernel
theorem dX10_clear_10 : decode cX10_clear 10 = .ok (.return_, 1) := by decide +kernel
theorem dX10_noteEntry_0 : decode cX10_noteEntry 0 = .ok (.aload_n 0, 1) := by decide +kernel
theorem dX10_noteEntry_1 : decode cX10_noteEntry 1 = .ok (.getfield 9, 3) := by decide +kernel
theorem dX10_noteEntry_4 : decode cX10_noteEntry 4 = .ok (.aload_n 0, 1) := by decide +kernel
theorem dX10_noteEntry_5 : decode cX10_noteEntry 5 = .ok (.getfield 15, 3) := by decide +kernel
theorem dX10_noteEntry_8 : decode cX10_noteEntry 8 = .ok (.bipush 60, 2) := by decide +kernel
theorem dX10_noteEntry_10 : decode cX10_noteEntry 10 = .ok (.invokestatic 22, 3) := by decide +kernel
theorem dX10_noteEntry_13 : decode cX10_noteEntry 13 = .ok (.iload_n 1, 1) := by decide +kernel
theorem dX10_noteEntry_14 : decode cX10_noteEntry 14 = .ok (.iastore, 1) := by decide +kernel
theorem dX10_noteEntry_15 : decode cX10_noteEntry 15 = .ok (.aload_n 0, 1) := by decide +kernel
theorem dX10_noteEntry_16 : decode cX10_noteEntry 16 = .ok (.dup, 1) := by decide +kernel
theorem dX10_noteEntry_17 : decode cX10_noteEntry 17 = .ok (.getfield 15, 3) := by decide +kernel
theorem dX10_noteEntry_20 : decode cX10_noteEntry 20 = .ok (.iconst 1, 1) := by decide +kernel
theorem dX10_noteEntry_21 : decode cX10_noteEntry 21 = .ok (.iadd, 1) := by decide +kernel
theorem dX10_noteEntry_22 : decode cX10_noteEntry 22 = .ok (.putfield 15, 3) := by decide +kernel
theorem dX10_noteEntry_25 : decode cX10_noteEntry 25 = .ok (.aload_n 0, 1) := by decide +kernel
theorem dX10_noteEntry_26 : decode cX10_noteEntry 26 = .ok (.bipush 60, 2) := by decide +kernel
theorem dX10_noteEntry_28 : decode cX10_noteEntry 28 = .ok (.aload_n 0, 1) := by decide +kernel
theorem dX10_noteEntry_29 : decode cX10_noteEntry 29 = .ok (.getfield 19, 3) := by decide +kernel
theorem dX10_noteEntry_32 : decode cX10_noteEntry 32 = .ok (.iconst 1, 1) := by decide +kernel
theorem dX10_noteEntry_33 : decode cX10_noteEntry 33 = .ok (.iadd, 1) := by decide +kernel
theorem dX10_noteEntry_34 : decode cX10_noteEntry 34 = .ok (.invokestatic 28, 3) := by decide +kernel
theorem dX10_noteEntry_37 : decode cX10_noteEntry 37 = .ok (.putfield 19, 3) := by decide +kernel
theorem dX10_noteEntry_40 : decode cX10_noteEntry 40 = .ok (.return_, 1) := by decide +kernel
theorem dX10_noteMove_0 : decode cX10_noteMove 0 = .ok (.aload_n 0, 1) := by decide +kernel
theorem dX10_noteMove_1 : decode cX10_noteMove 1 = .ok (.iconst (-1), 1) := by decide +kernel
theorem dX10_noteMove_2 : decode cX10_noteMove 2 = .ok (.invokevirtual 31, 3) := by decide +kernel
theorem dX10_noteMove_5 : decode cX10_noteMove 5 = .ok (.return_, 1) := by decide +kernel
theorem dX10_takeLatest_0 : decode cX10_takeLatest 0 = .ok (.aload_n 0, 1) := by decide +kernel
theorem dX10_takeLatest_1 : decode cX10_takeLatest 1 = .ok (.dup, 1) := by decide +kernel
theorem dX10_takeLatest_2 : decode cX10_takeLatest 2 = .ok (.getfield 15, 3) := by decide +kernel
theorem dX10_takeLatest_5 : decode cX10_takeLatest 5 = .ok (.iconst 1, 1) := by decide +kernel
theorem dX10_takeLatest_6 : decode cX10_takeLatest 6 = .ok (.isub, 1) := by decide +kernel
theorem dX10_takeLatest_7 : decode cX10_takeLatest 7 = .ok (.putfield 15, 3) := by decide +kernel
theorem dX10_takeLatest_10 : decode cX10_takeLatest 10 = .ok (.aload_n 0, 1) := by decide +kernel
theorem dX10_takeLatest_11 : decode cX10_takeLatest 11 = .ok (.iconst 0, 1) := by decide +kernel
theorem dX10_takeLatest_12 : decode cX10_takeLatest 12 = .ok (.aload_n 0, 1) := by decide +kernel
theorem dX10_takeLatest_13 : decode cX10_takeLatest 13 = .ok (.getfield 19, 3) := by decide +kernel
theorem dX10_takeLatest_16 : decode cX10_takeLatest 16 = .ok (.iconst 1, 1) := by decide +kernel
theorem dX10_takeLatest_17 : decode cX10_takeLatest 17 = .ok (.isub, 1) := by decide +kernel
theorem dX10_takeLatest_18 : decode cX10_takeLatest 18 = .ok (.invokestatic 35, 3) := by decide +kernel
theorem dX10_takeLatest_21 : decode cX10_takeLatest 21 = .ok (.putfield 19, 3) := by decide +kernel
theorem dX10_takeLatest_24 : decode cX10_takeLatest 24 = .ok (.aload_n 0, 1) := by decide +kernel
theorem dX10_takeLatest_25 : decode cX10_takeLatest 25 = .ok (.getfield 9, 3) := by decide +kernel
theorem dX10_takeLatest_28 : decode cX10_takeLatest 28 = .ok (.aload_n 0, 1) := by decide +kernel
theorem dX10_takeLatest_29 : decode cX10_takeLatest 29 = .ok (.getfield 15, 3) := by decide +kernel
theorem dX10_takeLatest_32 : decode cX10_takeLatest 32 = .ok (.bipush 60, 2) := by decide +kernel
theorem dX10_takeLatest_34 : decode cX10_takeLatest 34 = .ok (.invokestatic 22, 3) := by decide +kernel
theorem dX10_takeLatest_37 : decode cX10_takeLatest 37 = .ok (.iaload, 1) := by decide +kernel
theorem dX10_takeLatest_38 : decode cX10_takeLatest 38 = .ok (.ireturn, 1) := by decide +kernel
theorem dJ9_floorMod_7cf53_0 : decode cJ9_floorMod_7cf53 0 = .ok (.iload_n 0, 1) := by decide +kernel
theorem dJ9_floorMod_7cf53_1 : decode cJ9_floorMod_7cf53 1 = .ok (.iload_n 1, 1) := by decide +kernel
theorem dJ9_floorMod_7cf53_2 : decode cJ9_floorMod_7cf53 2 = .ok (.irem, 1) := by decide +kernel
theorem dJ9_floorMod_7cf53_3 : decode cJ9_floorMod_7cf53 3 = .ok (.istore_n 2, 1) := by decide +kernel
theorem dJ9_floorMod_7cf53_4 : decode cJ9_floorMod_7cf53 4 = .ok (.iload_n 0, 1) := by decide +kernel
theorem dJ9_floorMod_7cf53_5 : decode cJ9_floorMod_7cf53 5 = .ok (.iload_n 1, 1) := by decide +kernel
theorem dJ9_floorMod_7cf53_6 : decode cJ9_floorMod_7cf53 6 = .ok (.ixor, 1) := by decide +kernel
theorem dJ9_floorMod_7cf53_7 : decode cJ9_floorMod_7cf53 7 = .ok (.ifCond .ge 11, 3) := by decide +kernel
theorem dJ9_floorMod_7cf53_10 : decode cJ9_floorMod_7cf53 10 = .ok (.iload_n 2, 1) := by decide +kernel
theorem dJ9_floorMod_7cf53_11 : decode cJ9_floorMod_7cf53 11 = .ok (.ifCond .eq 7, 3) := by decide +kernel
theorem dJ9_floorMod_7cf53_14 : decode cJ9_floorMod_7cf53 14 = .ok (.iload_n 2, 1) := by decide +kernel
theorem dJ9_floorMod_7cf53_15 : decode cJ9_floorMod_7cf53 15 = .ok (.iload_n 1, 1) := by decide +kernel
theorem dJ9_floorMod_7cf53_16 : decode cJ9_floorMod_7cf53 16 = .ok (.iadd, 1) := by decide +kernel
theorem dJ9_floorMod_7cf53_17 : decode cJ9_floorMod_7cf53 17 = .ok (.ireturn, 1) := by decide +kernel
theorem dJ9_floorMod_7cf53_18 : decode cJ9_floorMod_7cf53 18 = .ok (.iload_n 2, 1) := by decide +kernel
theorem dJ9_floorMod_7cf53_19 : decode cJ9_floorMod_7cf53 19 = .ok (.ireturn, 1) := by decide +kernel
theorem dJ7_fill_d0a16_0 : decode cJ7_fill_d0a16 0 = .ok (.iconst 0, 1) := by decide +kernel
theorem dJ7_fill_d0a16_1 : decode cJ7_fill_d0a16 1 = .ok (.istore_n 3, 1) := by decide +kernel
theorem dJ7_fill_d0a16_2 : decode cJ7_fill_d0a16 2 = .ok (.aload_n 0, 1) := by decide +kernel
theorem dJ7_fill_d0a16_3 : decode cJ7_fill_d0a16 3 = .ok (.arraylength, 1) := by decide +kernel
theorem dJ7_fill_d0a16_4 : decode cJ7_fill_d0a16 4 = .ok (.istore 4, 2) := by decide +kernel
theorem dJ7_fill_d0a16_6 : decode cJ7_fill_d0a16 6 = .ok (.iload_n 3, 1) := by decide +kernel
theorem dJ7_fill_d0a16_7 : decode cJ7_fill_d0a16 7 = .ok (.iload 4, 2) := by decide +kernel
theorem dJ7_fill_d0a16_9 : decode cJ7_fill_d0a16 9 = .ok (.if_icmp .ge 13, 3) := by decide +kernel
theorem dJ7_fill_d0a16_12 : decode cJ7_fill_d0a16 12 = .ok (.aload_n 0, 1) := by decide +kernel
theorem dJ7_fill_d0a16_13 : decode cJ7_fill_d0a16 13 = .ok (.iload_n 3, 1) := by decide +kernel
theorem dJ7_fill_d0a16_14 : decode cJ7_fill_d0a16 14 = .ok (.lload_n 1, 1) := by decide +kernel
theorem dJ7_fill_d0a16_15 : decode cJ7_fill_d0a16 15 = .ok (.lastore, 1) := by decide +kernel
theorem dJ7_fill_d0a16_16 : decode cJ7_fill_d0a16 16 = .ok (.iinc 3 1, 3) := by decide +kernel
theorem dJ7_fill_d0a16_19 : decode cJ7_fill_d0a16 19 = .ok (.goto (-13), 3) := by decide +kernel
theorem dJ7_fill_d0a16_22 : decode cJ7_fill_d0a16 22 = .ok (.return_, 1) := by decide +kernel
theorem dJ7_fill_53178_0 : decode cJ7_fill_53178 0 = .ok (.iconst 0, 1) := by decide +kernel
theorem dJ7_fill_53178_1 : decode cJ7_fill_53178 1 = .ok (.istore_n 2, 1) := by decide +kernel
theorem dJ7_fill_53178_2 : decode cJ7_fill_53178 2 = .ok (.aload_n 0, 1) := by decide +kernel
theorem dJ7_fill_53178_3 : decode cJ7_fill_53178 3 = .ok (.arraylength, 1) := by decide +kernel
theorem dJ7_fill_53178_4 : decode cJ7_fill_53178 4 = .ok (.istore_n 3, 1) := by decide +kernel
theorem dJ7_fill_53178_5 : decode cJ7_fill_53178 5 = .ok (.iload_n 2, 1) := by decide +kernel
theorem dJ7_fill_53178_6 : decode cJ7_fill_53178 6 = .ok (.iload_n 3, 1) := by decide +kernel
theorem dJ7_fill_53178_7 : decode cJ7_fill_53178 7 = .ok (.if_icmp .ge 13, 3) := by decide +kernel
theorem dJ7_fill_53178_10 : decode cJ7_fill_53178 10 = .ok (.aload_n 0, 1) := by decide +kernel
theorem dJ7_fill_53178_11 : decode cJ7_fill_53178 11 = .ok (.iload_n 2, 1) := by decide +kernel
theorem dJ7_fill_53178_12 : decode cJ7_fill_53178 12 = .ok (.iload_n 1, 1) := by decide +kernel
theorem dJ7_fill_53178_13 : decode cJ7_fill_53178 13 = .ok (.iastore, 1) := by decide +kernel
theorem dJ7_fill_53178_14 : decode cJ7_fill_53178 14 = .ok (.iinc 2 1, 3) := by decide +kernel
theorem dJ7_fill_53178_17 : decode cJ7_fill_53178 17 = .ok (.goto (-12), 3) := by decide +kernel
theorem dJ7_fill_53178_20 : decode cJ7_fill_53178 20 = .ok (.return_, 1) := by decide +kernel
theorem wd_104 : Cond.fieldLink RX10 15 RX10 "next" "I" ∈ lw_good := mem_t1 172 (by decide +kernel) rfl
theorem wd_105 : Cond.fieldLink RX10 19 RX10 "count" "I" ∈ lw_good := mem_t1 173 (by decide +kernel) rfl
theorem wd_106 : Cond.fieldLink RX10 9 RX10 "days" "[I" ∈ lw_good := mem_t1 171 (by decide +kernel) rfl
theorem wd_107 : Cond.methodLink RX10 22 yJ9_floorMod_7cf53 ∈ lw_good := mem_t3 143 (by decide +kernel) rfl
theorem wd_108 : Cond.static yJ9_floorMod_7cf53 ∈ lw_good := mem_t3 144 (by decide +kernel) rfl
theorem wd_109 : Cond.code yJ9_floorMod_7cf53 cJ9_floorMod_7cf53 3 (some .int) ∈ lw_good := mem_t3 145 (by decide +kernel) rfl
theorem wd_110 : Cond.methodLink RX10 28 Lib.Math.min.name ∈ lw_good := mem_t3 146 (by decide +kernel) rfl
theorem wd_111 : Cond.methodLink RX10 31 yX10_noteEntry ∈ lw_good := mem_t3 181 (by decide +kernel) rfl
theorem wd_112 : Cond.instanceMethod yX10_noteEntry ∈ lw_good := mem_t3 140 (by decide +kernel) rfl
theorem wd_113 : Cond.selects RX10 yX10_noteEntry yX10_noteEntry ∈ lw_good := mem_t3 141 (by decide +kernel) rfl
theorem wd_114 : Cond.initialized RX10 ∈ lw_good := mem_t1 9 (by decide +kernel) rfl
theorem wd_115 : Cond.code yX10_noteEntry cX10_noteEntry 2 none ∈ lw_good := mem_t3 142 rfl rfl
theorem wd_116 : Cond.methodLink RX10 35 Lib.Math.max.name ∈ lw_good := mem_t3 195 (by decide +kernel) rfl
theorem wd_117 : Cond.methodLink RX9 69 Lib.Math.max.name ∈ lw_good := mem_t4 203 (by decide +kernel) rfl
theorem wd_118 : Cond.fieldLink RX1 28 RX1 "count" "I" ∈ lw_good := mem_t1 152 (by decide +kernel) rfl
theorem wd_119 : Cond.fieldLink RX1 21 RX1 "days" "[I" ∈ lw_good := mem_t1 148 (by decide +kernel) rfl
theorem wd_120 : Cond.methodLink RX1 32 yX1_isFull ∈ lw_good := mem_t3 176 (by decide +kernel) rfl
theorem wd_121 : Cond.instanceMethod yX1_isFull ∈ lw_good := mem_t3 169 (by decide +kernel) rfl
theorem wd_122 : Cond.selects RX1 yX1_isFull yX1_isFull ∈ lw_good := mem_t3 170 (by decide +kernel) rfl
theorem wd_123 : Cond.initialized RX1 ∈ lw_good := mem_t1 7 (by decide +kernel) rfl
theorem wd_124 : Cond.code yX1_isFull cX1_isFull 1 (some .boolean) ∈ lw_good := mem_t3 171 rfl rfl
theorem wd_125 : Cond.fieldLink RX1 15 RX1 "tenures" "[LPartnersBook$Tenure;" ∈ lw_good := mem_t1 146 (by decide +kernel) rfl
theorem wd_126 : Cond.fieldLink RX1 25 RX1 "sums" "[I" ∈ lw_good := mem_t1 150 (by decide +kernel) rfl
theorem wd_127 : Cond.fieldLink RX1 36 RX9 "credit" "J" ∈ lw_good := mem_t2 210 (by decide +kernel) rfl
theorem wd_128 : Cond.methodLink RX6 28 yX6_isTerm ∈ lw_good := mem_t3 78 (by decide +kernel) rfl
theorem wd_129 : Cond.static yX6_isTerm ∈ lw_good := mem_t3 79 (by decide +kernel) rfl
theorem wd_130 : Cond.code yX6_isTerm cX6_isTerm 2 (some .boolean) ∈ lw_good := mem_t3 80 rfl rfl
theorem wd_131 : Cond.methodLink RX2 127 yX2_ruleOn ∈ lw_good := mem_t4 218 (by decide +kernel) rfl
theorem wd_132 : Cond.instanceMethod yX2_ruleOn ∈ lw_good := mem_t4 99 (by decide +kernel) rfl
theorem wd_133 : Cond.selects RX2 yX2_ruleOn yX2_ruleOn ∈ lw_good := mem_t4 100 (by decide +kernel) rfl
theorem wd_134 : Cond.code yX2_ruleOn cX2_ruleOn 5 (some (.object "PartnersBook$Rule")) ∈ lw_good := mem_t4 101 rfl rfl
theorem wd_135 : Cond.methodLink RX2 131 yX6_termOf ∈ lw_good := mem_t4 219 (by decide +kernel) rfl
theorem wd_136 : Cond.instanceMethod yX6_termOf ∈ lw_good := mem_t4 116 (by decide +kernel) rfl
theorem wd_137 : Cond.selects RX6 yX6_termOf yX6_termOf ∈ lw_good := mem_t4 117 (by decide +kernel) rfl
theorem wd_138 : Cond.code yX6_termOf cX6_termOf 3 (some .int) ∈ lw_good := mem_t4 118 rfl rfl
set_option maxHeartbeats 4000000 in
set_option maxRecDepth 100000 in
theorem s_J9_floorMod_7cf53 (l : Launch) (D : va_G) (cy : Nat → ClassId) (K : Kp) (L : List Nat) (M : Hp) (sz : Nat) (k1 : Int32) (hW : WOK cy K L M)  : Met l yJ9_floorMod_7cf53 (wsM yJ9_floorMod_7cf53 cJ9_floorMod_7cf53 3 (some .int)) ({ frames := 0, cells := 0, slots := 0, locals := 0 }) (va_Pc [.int k1, .int 60] (PG D cy [] L M sz)) (va_Qi (fun (r : Int32) (_ : Unit) => (∃ (j : Nat), r = nI j ∧ j < 60)) (fun _ t => PQ D [] L M (va_A ([] ++ va_pl L M) sz) t) (va_A ([] ++ va_pl L M) sz)) 0 0 (va_A ([] ++ va_pl L M) sz) := by
  refine va_MetF (cc := cJ9_floorMod_7cf53) (maxL := 3) (ret := (some .int)) (by decide +kernel) rfl ?_
  intro p e s m args below meth c s₁ B hml hv
  obtain ⟨rfl, hsz, hP, hK, hD0, hN⟩ := hv
  have hx := B.exec
  have hb := B.bytes
  have hr := B.returns
  have hts := atoms_spec (ws := (wsM yJ9_floorMod_7cf53 cJ9_floorMod_7cf53 3 (some .int))) B.pre
  have hg : ∀ w ∈ lw_good, w.before _ s = true := fun w h => hts w (List.mem_cons_of_mem _ h)
  have hown : s.vm.findClass RJ9 = some m.cls := findClass_of_methodNamed B.named
  have hlocks := B.notSynchronized
  subst hsz
  have hD := hD0.self (sz := s.heap.size)
  generalize hAe : va_A ([] ++ va_pl L M) s.heap.size = A at hD ⊢
  have hA : ∀ q : Nat, s.heap.size ≤ q → A q := fun q h => by rw [← hAe]; exact Or.inr h
  have hS : va_S A s.heap s.heap [] := va_S.rf
  have hl := lv_entry ([.int k1, .int 60]) (n := 3) (Nat.le_of_ble_eq_true rfl)
  rw [lg_entry_eq]
  generalize (lg_sl ([.int k1, .int 60]) ++ List.replicate (3 - (lg_sl ([.int k1, .int 60])).length) Slot.unset).toArray = ls at hl ⊢
  refine W.nameQ (fun Q hQ => ?_)
  refine W.nameR (fun R hR => ?_)
  have hRf : 0 ≤ R.frames := by rw [hR]; exact Nat.le_of_ble_eq_true rfl
  have hRl : 0 ≤ R.locals := by rw [hR]; exact Nat.le_of_ble_eq_true rfl
  have hRc : 0 ≤ R.cells := by rw [hR]; exact Nat.le_of_ble_eq_true rfl
  have hRs : 0 ≤ R.slots := by rw [hR]; exact Nat.le_of_ble_eq_true rfl
  have hl : lv_has ls 3 [(0, .int k1), (1, .int 60)] := hl
  refine lv_iload_n hx hb dJ9_floorMod_7cf53_0 rfl (lv_at hl 0 rfl) ?_
  refine lv_iload_n hx hb dJ9_floorMod_7cf53_1 rfl (lv_at hl 1 rfl) ?_
  refine lv_irem hx hb dJ9_floorMod_7cf53_2 (by decide) ?_
  refine lv_topi (fun f_1 ef_1 => ?_)
  refine lv_istore_n (lv' := [(2, .int f_1), (0, .int k1), (1, .int 60)]) hx hb dJ9_floorMod_7cf53_3 rfl hl (by decide) rfl (fun ls hl => ?_)
  refine lv_iload_n hx hb dJ9_floorMod_7cf53_4 rfl (lv_at hl 1 rfl) ?_
  refine lv_iload_n hx hb dJ9_floorMod_7cf53_5 rfl (lv_at hl 2 rfl) ?_
  refine lv_ixor hx hb dJ9_floorMod_7cf53_6 ?_
  refine lv_topi (fun f_2 ef_2 => ?_)
  refine lv_if_ge (tgt := 18) hx hb dJ9_floorMod_7cf53_7 (by decide) (fun c_3 => ?_) (fun c_3 => ?_)
  · have hz := rfl (a := 0)
    refine lv_iload_n hx hb dJ9_floorMod_7cf53_18 rfl (lv_at hl 0 rfl) ?_
    rw [hQ]
    exact W.iret (v := f_1) hx hb hr (fun t ht hW9 => ⟨⟨f_1, (), rfl, (fm60a ef_1 (by rw [← ef_2]; exact c_3)), ⟨by rw [ht]; exact hP, hD⟩⟩, hS.F ht⟩) hS.2.2 dJ9_floorMod_7cf53_19
  · have hz := rfl (a := 0)
    refine lv_iload_n hx hb dJ9_floorMod_7cf53_10 rfl (lv_at hl 0 rfl) ?_
    refine lv_if_eq (tgt := 18) hx hb dJ9_floorMod_7cf53_11 (by decide) (fun c_4 => ?_) (fun c_4 => ?_)
    · have hz := rfl (a := 0)
      refine lv_iload_n hx hb dJ9_floorMod_7cf53_18 rfl (lv_at hl 0 rfl) ?_
      rw [hQ]
      exact W.iret (v := f_1) hx hb hr (fun t ht hW9 => ⟨⟨f_1, (), rfl, ⟨0, by rw [c_4]; rfl, by decide⟩, ⟨by rw [ht]; exact hP, hD⟩⟩, hS.F ht⟩) hS.2.2 dJ9_floorMod_7cf53_19
    · have hz := rfl (a := 0)
      refine lv_iload_n hx hb dJ9_floorMod_7cf53_14 rfl (lv_at hl 0 rfl) ?_
      refine lv_iload_n hx hb dJ9_floorMod_7cf53_15 rfl (lv_at hl 2 rfl) ?_
      refine lv_iadd hx hb dJ9_floorMod_7cf53_16 ?_
      refine lv_topi (fun f_5 ef_5 => ?_)
      rw [hQ]
      exact W.iret (v := f_5) hx hb hr (fun t ht hW9 => ⟨⟨f_5, (), rfl, (fm60b ef_1 (by rw [← ef_2]; exact c_3) ef_5 c_4), ⟨by rw [ht]; exact hP, hD⟩⟩, hS.F ht⟩) hS.2.2 dJ9_floorMod_7cf53_17
set_option maxHeartbeats 4000000 in
set_option maxRecDepth 100000 in
theorem s_J7_fill_d0a16_66 (l : Launch) (D : va_G) (cy : Nat → ClassId) (K : Kp) (L : List Nat) (M : Hp) (sz : Nat) (k1 : Nat) (nk : Nat) (k2 : Int64) (hW : WOK cy K L M) (ik1 : isk K L k1 66 nk) (hnk : nk ≤ 1000) : Met l yJ7_fill_d0a16 (wsM yJ7_fill_d0a16 cJ7_fill_d0a16 5 none) ({ frames := 0, cells := 0, slots := 0, locals := 0 }) (va_Pc [.ref k1, .long k2] (PG D cy [] L M sz)) (va_Qv (fun (M9 : Hp) => WOK cy K L M9 ∧ fr K L [66] M M9 ∧ (True)) (fun M9 t => PQ D [] L M9 (va_A ([] ++ va_pl L M) sz) t) (va_A ([] ++ va_pl L M) sz)) 0 0 (va_A ([] ++ va_pl L M) sz) := by
  refine Met.ofW (cc := cJ7_fill_d0a16) (maxL := 5) (ret := none) (by decide) rfl ?_
  intro p e s m args below meth c s₁ B hml hv
  obtain ⟨rfl, hsz, hP, hK, hD0, hN⟩ := hv
  have hx := B.exec
  have hb := B.bytes
  have hr := B.returns
  have hts := atoms_spec (ws := (wsM yJ7_fill_d0a16 cJ7_fill_d0a16 5 none)) B.pre
  have hg : ∀ w ∈ lw_good, w.before _ s = true := fun w h => hts w (List.mem_cons_of_mem _ h)
  have hown : s.vm.findClass RJ7 = some m.cls := findClass_of_methodNamed B.named
  have hlocks := B.notSynchronized
  subst hsz
  have hD := hD0.self (sz := s.heap.size)
  generalize hAe : va_A ([] ++ va_pl L M) s.heap.size = A at hD ⊢
  have hA : ∀ q : Nat, s.heap.size ≤ q → A q := fun q h => by rw [← hAe]; exact Or.inr h
  have hS : va_S A s.heap s.heap [] := va_S.rf
  have hl := lv_entry ([.ref k1, .long k2]) (n := 5) (Nat.le_of_ble_eq_true rfl)
  rw [lg_entry_eq]
  generalize (lg_sl ([.ref k1, .long k2]) ++ List.replicate (5 - (lg_sl ([.ref k1, .long k2])).length) Slot.unset).toArray = ls at hl ⊢
  refine W.nameQ (fun Q hQ => ?_)
  refine W.nameR (fun R hR => ?_)
  have hRf : 0 ≤ R.frames := by rw [hR]; exact Nat.le_of_ble_eq_true rfl
  have hRl : 0 ≤ R.locals := by rw [hR]; exact Nat.le_of_ble_eq_true rfl
  have hRc : 0 ≤ R.cells := by rw [hR]; exact Nat.le_of_ble_eq_true rfl
  have hRs : 0 ≤ R.slots := by rw [hR]; exact Nat.le_of_ble_eq_true rfl
  have hF : fr K L [66] M M := fr.rf
  have hl : lv_has ls 5 [(0, .ref k1), (1, .long k2)] := hl
  refine lv_iconst (v := 0) hx hb dJ7_fill_d0a16_0 (by decide) ?_
  refine lv_istore_n (lv' := [(3, .int 0), (0, .ref k1), (1, .long k2)]) hx hb dJ7_fill_d0a16_1 rfl hl (by decide) rfl (fun ls hl => ?_)
  refine lv_aload_n hx hb dJ7_fill_d0a16_2 rfl (lv_at hl 1 rfl) ?_
  obtain ⟨f1, hM1⟩ := hW.open_66 ik1
  refine pg_alen (v := (nI nk)) hx hb hK hP ik1.1 1 hM1 rfl (by rfl) dJ7_fill_d0a16_3 ?_
  refine lv_istore (lv' := [(4, .int (nI nk)), (3, .int 0), (0, .ref k1), (1, .long k2)]) hx hb dJ7_fill_d0a16_4 hl (by decide) rfl (fun ls hl => ?_)
  have key_2 : ∀ (fu_4 : Nat) (v3w5 : Nat) (M_7 : Hp) (H_8 : Heap) (locs : List Loc) (ls : Array Slot), nk - v3w5 < fu_4 → v3w5 ≤ nk → WOK cy K L M_7 → fr K L [66] M M_7 → va_P D vwCl ([] ++ va_pl L M_7) H_8 → va_D A ([] ++ va_pl L M_7) → va_S A s.heap H_8 locs → lv_has ls 5 [(4, .int (nI nk)), (3, .int (nI v3w5)), (0, .ref k1), (1, .long k2)] → W p l e R s m ([.ref k1, .long k2] : List Value).toArray below meth c H_8 locs 0 0 Q (F0 m 6 ls []) := by
    intro fu_4
    induction fu_4 with
    | zero => intro v3w5 M_7 H_8 locs ls h; exact absurd h (Nat.not_lt_zero _)
    | succ fu_4 ih_3 =>
      intro v3w5 M_7 H_8 locs ls hfu hx_6 hW hF hP hD hS hl
      refine lv_iload_n hx hb dJ7_fill_d0a16_6 rfl (lv_at hl 1 rfl) ?_
      refine lv_iload hx hb dJ7_fill_d0a16_7 (lv_at hl 0 rfl) ?_
      refine lv_icmp_ge (tgt := 22) hx hb dJ7_fill_d0a16_9 (by decide) (fun c_9 => ?_) (fun c_9 => ?_)
      · have hz := rfl (a := 0)
        have n_10 : nk ≤ v3w5 := (iLE (a := nk) (b := v3w5) (by omega) (by omega)).mp c_9
        rw [hQ]
        exact W.vret hx hb hr (fun t ht hW9 => ⟨⟨M_7, rfl, ⟨hW, hF, trivial⟩, ⟨by rw [ht]; exact hP, hD⟩⟩, hS.F ht⟩) hS.2.2 dJ7_fill_d0a16_22
      · have hz := rfl (a := 0)
        have n_11 : ¬ (nk ≤ v3w5) := fun q => c_9 ((iLE (a := nk) (b := v3w5) (by omega) (by omega)).mpr q)
        refine lv_aload_n hx hb dJ7_fill_d0a16_12 rfl (lv_at hl 2 rfl) ?_
        refine lv_iload_n hx hb dJ7_fill_d0a16_13 rfl (lv_at hl 1 rfl) ?_
        refine lv_lload_n hx hb dJ7_fill_d0a16_14 rfl (lv_at hl 3 rfl) ?_
        obtain ⟨f12, hM12⟩ := hW.open_66 ik1
        refine pg_last hx hb hK hP hD hS ik1.1 1 hM12 rfl (inbN v3w5 nk (by omega) (by omega)) dJ7_fill_d0a16_15 (fun H_13 locs hP hD hS => ?_)
        obtain ⟨M_14, eM_14⟩ : ∃ M1 : Hp, M1 = va_up M_7 k1 (.inl (cy 15, nk, .inr (.inl (vp_updL f12 ((nI v3w5) : Int32).toNatClampNeg k2)))) := ⟨_, rfl⟩
        have hP : va_P D vwCl ([] ++ va_pl L M_14) H_13 := by rw [eM_14]; exact hP
        have hD : va_D A ([] ++ va_pl L M_14) := by rw [eM_14]; exact hD
        have hW : WOK cy K L M_14 := by rw [eM_14]; exact hW.up_66 ik1 ⟨_, rfl⟩
        have hF : fr K L [66] M M_14 := by rw [eM_14]; exact hF.up ik1 (by decide)
        have hM_15 : M_14 k1 = .inl (cy 15, nk, .inr (.inl (vp_updL f12 ((nI v3w5) : Int32).toNatClampNeg k2))) := by rw [eM_14]; exact va_up_self _ _ _
        obtain ⟨f_16, ef_16⟩ : ∃ f : Nat → Int64, f = vp_updL f12 ((nI v3w5) : Int32).toNatClampNeg k2 := ⟨_, rfl⟩
        rw [← ef_16] at hM_15
        clear ef_16
        refine lv_iinc (v := (nI (v3w5 + 1))) (lv' := [(3, .int (nI (v3w5 + 1))), (4, .int (nI nk)), (0, .ref k1), (1, .long k2)]) hx hb dJ7_fill_d0a16_16 hl (k := 1) rfl (nI_1 v3w5) (by decide) rfl (fun ls hl => ?_)
        refine lv_goto (tgt := 6) hx hb dJ7_fill_d0a16_19 (by decide) ?_
        exact ih_3 (v3w5 + 1) M_14 H_13 _ _ (by omega) (by omega) hW hF hP hD hS (lv_sub hl [1, 0, 2, 3] rfl)
  exact key_2 (nk - 0 + 1) 0 M s.heap _ _ (by omega) (by omega) hW hF hP hD hS (lv_sub hl [0, 1, 2, 3] rfl)
set_option maxHeartbeats 4000000 in
set_option maxRecDepth 100000 in
theorem s_J7_fill_d0a16_67 (l : Launch) (D : va_G) (cy : Nat → ClassId) (K : Kp) (L : List Nat) (M : Hp) (sz : Nat) (k1 : Nat) (nk : Nat) (k2 : Int64) (hW : WOK cy K L M) (ik1 : isk K L k1 67 nk) (hnk : nk ≤ 1000) : Met l yJ7_fill_d0a16 (wsM yJ7_fill_d0a16 cJ7_fill_d0a16 5 none) ({ frames := 0, cells := 0, slots := 0, locals := 0 }) (va_Pc [.ref k1, .long k2] (PG D cy [] L M sz)) (va_Qv (fun (M9 : Hp) => WOK cy K L M9 ∧ fr K L [67] M M9 ∧ (True)) (fun M9 t => PQ D [] L M9 (va_A ([] ++ va_pl L M) sz) t) (va_A ([] ++ va_pl L M) sz)) 0 0 (va_A ([] ++ va_pl L M) sz) := by
  refine Met.ofW (cc := cJ7_fill_d0a16) (maxL := 5) (ret := none) (by decide) rfl ?_
  intro p e s m args below meth c s₁ B hml hv
  obtain ⟨rfl, hsz, hP, hK, hD0, hN⟩ := hv
  have hx := B.exec
  have hb := B.bytes
  have hr := B.returns
  have hts := atoms_spec (ws := (wsM yJ7_fill_d0a16 cJ7_fill_d0a16 5 none)) B.pre
  have hg : ∀ w ∈ lw_good, w.before _ s = true := fun w h => hts w (List.mem_cons_of_mem _ h)
  have hown : s.vm.findClass RJ7 = some m.cls := findClass_of_methodNamed B.named
  have hlocks := B.notSynchronized
  subst hsz
  have hD := hD0.self (sz := s.heap.size)
  generalize hAe : va_A ([] ++ va_pl L M) s.heap.size = A at hD ⊢
  have hA : ∀ q : Nat, s.heap.size ≤ q → A q := fun q h => by rw [← hAe]; exact Or.inr h
  have hS : va_S A s.heap s.heap [] := va_S.rf
  have hl := lv_entry ([.ref k1, .long k2]) (n := 5) (Nat.le_of_ble_eq_true rfl)
  rw [lg_entry_eq]
  generalize (lg_sl ([.ref k1, .long k2]) ++ List.replicate (5 - (lg_sl ([.ref k1, .long k2])).length) Slot.unset).toArray = ls at hl ⊢
  refine W.nameQ (fun Q hQ => ?_)
  refine W.nameR (fun R hR => ?_)
  have hRf : 0 ≤ R.frames := by rw [hR]; exact Nat.le_of_ble_eq_true rfl
  have hRl : 0 ≤ R.locals := by rw [hR]; exact Nat.le_of_ble_eq_true rfl
  have hRc : 0 ≤ R.cells := by rw [hR]; exact Nat.le_of_ble_eq_true rfl
  have hRs : 0 ≤ R.slots := by rw [hR]; exact Nat.le_of_ble_eq_true rfl
  have hF : fr K L [67] M M := fr.rf
  have hl : lv_has ls 5 [(0, .ref k1), (1, .long k2)] := hl
  refine lv_iconst (v := 0) hx hb dJ7_fill_d0a16_0 (by decide) ?_
  refine lv_istore_n (lv' := [(3, .int 0), (0, .ref k1), (1, .long k2)]) hx hb dJ7_fill_d0a16_1 rfl hl (by decide) rfl (fun ls hl => ?_)
  refine lv_aload_n hx hb dJ7_fill_d0a16_2 rfl (lv_at hl 1 rfl) ?_
  obtain ⟨f1, hM1⟩ := hW.open_67 ik1
  refine pg_alen (v := (nI nk)) hx hb hK hP ik1.1 1 hM1 rfl (by rfl) dJ7_fill_d0a16_3 ?_
  refine lv_istore (lv' := [(4, .int (nI nk)), (3, .int 0), (0, .ref k1), (1, .long k2)]) hx hb dJ7_fill_d0a16_4 hl (by decide) rfl (fun ls hl => ?_)
  have key_2 : ∀ (fu_4 : Nat) (v3w5 : Nat) (M_7 : Hp) (H_8 : Heap) (locs : List Loc) (ls : Array Slot), nk - v3w5 < fu_4 → v3w5 ≤ nk → WOK cy K L M_7 → fr K L [67] M M_7 → va_P D vwCl ([] ++ va_pl L M_7) H_8 → va_D A ([] ++ va_pl L M_7) → va_S A s.heap H_8 locs → lv_has ls 5 [(4, .int (nI nk)), (3, .int (nI v3w5)), (0, .ref k1), (1, .long k2)] → W p l e R s m ([.ref k1, .long k2] : List Value).toArray below meth c H_8 locs 0 0 Q (F0 m 6 ls []) := by
    intro fu_4
    induction fu_4 with
    | zero => intro v3w5 M_7 H_8 locs ls h; exact absurd h (Nat.not_lt_zero _)
    | succ fu_4 ih_3 =>
      intro v3w5 M_7 H_8 locs ls hfu hx_6 hW hF hP hD hS hl
      refine lv_iload_n hx hb dJ7_fill_d0a16_6 rfl (lv_at hl 1 rfl) ?_
      refine lv_iload hx hb dJ7_fill_d0a16_7 (lv_at hl 0 rfl) ?_
      refine lv_icmp_ge (tgt := 22) hx hb dJ7_fill_d0a16_9 (by decide) (fun c_9 => ?_) (fun c_9 => ?_)
      · have hz := rfl (a := 0)
        have n_10 : nk ≤ v3w5 := (iLE (a := nk) (b := v3w5) (by omega) (by omega)).mp c_9
        rw [hQ]
        exact W.vret hx hb hr (fun t ht hW9 => ⟨⟨M_7, rfl, ⟨hW, hF, trivial⟩, ⟨by rw [ht]; exact hP, hD⟩⟩, hS.F ht⟩) hS.2.2 dJ7_fill_d0a16_22
      · have hz := rfl (a := 0)
        have n_11 : ¬ (nk ≤ v3w5) := fun q => c_9 ((iLE (a := nk) (b := v3w5) (by omega) (by omega)).mpr q)
        refine lv_aload_n hx hb dJ7_fill_d0a16_12 rfl (lv_at hl 2 rfl) ?_
        refine lv_iload_n hx hb dJ7_fill_d0a16_13 rfl (lv_at hl 1 rfl) ?_
        refine lv_lload_n hx hb dJ7_fill_d0a16_14 rfl (lv_at hl 3 rfl) ?_
        obtain ⟨f12, hM12⟩ := hW.open_67 ik1
        refine pg_last hx hb hK hP hD hS ik1.1 1 hM12 rfl (inbN v3w5 nk (by omega) (by omega)) dJ7_fill_d0a16_15 (fun H_13 locs hP hD hS => ?_)
        obtain ⟨M_14, eM_14⟩ : ∃ M1 : Hp, M1 = va_up M_7 k1 (.inl (cy 15, nk, .inr (.inl (vp_updL f12 ((nI v3w5) : Int32).toNatClampNeg k2)))) := ⟨_, rfl⟩
        have hP : va_P D vwCl ([] ++ va_pl L M_14) H_13 := by rw [eM_14]; exact hP
        have hD : va_D A ([] ++ va_pl L M_14) := by rw [eM_14]; exact hD
        have hW : WOK cy K L M_14 := by rw [eM_14]; exact hW.up_67 ik1 ⟨_, rfl⟩
        have hF : fr K L [67] M M_14 := by rw [eM_14]; exact hF.up ik1 (by decide)
        have hM_15 : M_14 k1 = .inl (cy 15, nk, .inr (.inl (vp_updL f12 ((nI v3w5) : Int32).toNatClampNeg k2))) := by rw [eM_14]; exact va_up_self _ _ _
        obtain ⟨f_16, ef_16⟩ : ∃ f : Nat → Int64, f = vp_updL f12 ((nI v3w5) : Int32).toNatClampNeg k2 := ⟨_, rfl⟩
        rw [← ef_16] at hM_15
        clear ef_16
        refine lv_iinc (v := (nI (v3w5 + 1))) (lv' := [(3, .int (nI (v3w5 + 1))), (4, .int (nI nk)), (0, .ref k1), (1, .long k2)]) hx hb dJ7_fill_d0a16_16 hl (k := 1) rfl (nI_1 v3w5) (by decide) rfl (fun ls hl => ?_)
        refine lv_goto (tgt := 6) hx hb dJ7_fill_d0a16_19 (by decide) ?_
        exact ih_3 (v3w5 + 1) M_14 H_13 _ _ (by omega) (by omega) hW hF hP hD hS (lv_sub hl [1, 0, 2, 3] rfl)
  exact key_2 (nk - 0 + 1) 0 M s.heap _ _ (by omega) (by omega) hW hF hP hD hS (lv_sub hl [0, 1, 2, 3] rfl)
set_option maxHeartbeats 4000000 in
set_option maxRecDepth 100000 in
theorem s_J7_fill_d0a16_68 (l : Launch) (D : va_G) (cy : Nat → ClassId) (K : Kp) (L : List Nat) (M : Hp) (sz : Nat) (k1 : Nat) (nk : Nat) (k2 : Int64) (hW : WOK cy K L M) (ik1 : isk K L k1 68 nk) (hnk : nk ≤ 1000) : Met l yJ7_fill_d0a16 (wsM yJ7_fill_d0a16 cJ7_fill_d0a16 5 none) ({ frames := 0, cells := 0, slots := 0, locals := 0 }) (va_Pc [.ref k1, .long k2] (PG D cy [] L M sz)) (va_Qv (fun (M9 : Hp) => WOK cy K L M9 ∧ fr K L [68] M M9 ∧ (True)) (fun M9 t => PQ D [] L M9 (va_A ([] ++ va_pl L M) sz) t) (va_A ([] ++ va_pl L M) sz)) 0 0 (va_A ([] ++ va_pl L M) sz) := by
  refine Met.ofW (cc := cJ7_fill_d0a16) (maxL := 5) (ret := none) (by decide) rfl ?_
  intro p e s m args below meth c s₁ B hml hv
  obtain ⟨rfl, hsz, hP, hK, hD0, hN⟩ := hv
  have hx := B.exec
  have hb := B.bytes
  have hr := B.returns
  have hts := atoms_spec (ws := (wsM yJ7_fill_d0a16 cJ7_fill_d0a16 5 none)) B.pre
  have hg : ∀ w ∈ lw_good, w.before _ s = true := fun w h => hts w (List.mem_cons_of_mem _ h)
  have hown : s.vm.findClass RJ7 = some m.cls := findClass_of_methodNamed B.named
  have hlocks := B.notSynchronized
  subst hsz
  have hD := hD0.self (sz := s.heap.size)
  generalize hAe : va_A ([] ++ va_pl L M) s.heap.size = A at hD ⊢
  have hA : ∀ q : Nat, s.heap.size ≤ q → A q := fun q h => by rw [← hAe]; exact Or.inr h
  have hS : va_S A s.heap s.heap [] := va_S.rf
  have hl := lv_entry ([.ref k1, .long k2]) (n := 5) (Nat.le_of_ble_eq_true rfl)
  rw [lg_entry_eq]
  generalize (lg_sl ([.ref k1, .long k2]) ++ List.replicate (5 - (lg_sl ([.ref k1, .long k2])).length) Slot.unset).toArray = ls at hl ⊢
  refine W.nameQ (fun Q hQ => ?_)
  refine W.nameR (fun R hR => ?_)
  have hRf : 0 ≤ R.frames := by rw [hR]; exact Nat.le_of_ble_eq_true rfl
  have hRl : 0 ≤ R.locals := by rw [hR]; exact Nat.le_of_ble_eq_true rfl
  have hRc : 0 ≤ R.cells := by rw [hR]; exact Nat.le_of_ble_eq_true rfl
  have hRs : 0 ≤ R.slots := by rw [hR]; exact Nat.le_of_ble_eq_true rfl
  have hF : fr K L [68] M M := fr.rf
  have hl : lv_has ls 5 [(0, .ref k1), (1, .long k2)] := hl
  refine lv_iconst (v := 0) hx hb dJ7_fill_d0a16_0 (by decide) ?_
  refine lv_istore_n (lv' := [(3, .int 0), (0, .ref k1), (1, .long k2)]) hx hb dJ7_fill_d0a16_1 rfl hl (by decide) rfl (fun ls hl => ?_)
  refine lv_aload_n hx hb dJ7_fill_d0a16_2 rfl (lv_at hl 1 rfl) ?_
  obtain ⟨f1, hM1⟩ := hW.open_68 ik1
  refine pg_alen (v := (nI nk)) hx hb hK hP ik1.1 1 hM1 rfl (by rfl) dJ7_fill_d0a16_3 ?_
  refine lv_istore (lv' := [(4, .int (nI nk)), (3, .int 0), (0, .ref k1), (1, .long k2)]) hx hb dJ7_fill_d0a16_4 hl (by decide) rfl (fun ls hl => ?_)
  have key_2 : ∀ (fu_4 : Nat) (v3w5 : Nat) (M_7 : Hp) (H_8 : Heap) (locs : List Loc) (ls : Array Slot), nk - v3w5 < fu_4 → v3w5 ≤ nk → WOK cy K L M_7 → fr K L [68] M M_7 → va_P D vwCl ([] ++ va_pl L M_7) H_8 → va_D A ([] ++ va_pl L M_7) → va_S A s.heap H_8 locs → lv_has ls 5 [(4, .int (nI nk)), (3, .int (nI v3w5)), (0, .ref k1), (1, .long k2)] → W p l e R s m ([.ref k1, .long k2] : List Value).toArray below meth c H_8 locs 0 0 Q (F0 m 6 ls []) := by
    intro fu_4
    induction fu_4 with
    | zero => intro v3w5 M_7 H_8 locs ls h; exact absurd h (Nat.not_lt_zero _)
    | succ fu_4 ih_3 =>
      intro v3w5 M_7 H_8 locs ls hfu hx_6 hW hF hP hD hS hl
      refine lv_iload_n hx hb dJ7_fill_d0a16_6 rfl (lv_at hl 1 rfl) ?_
      refine lv_iload hx hb dJ7_fill_d0a16_7 (lv_at hl 0 rfl) ?_
      refine lv_icmp_ge (tgt := 22) hx hb dJ7_fill_d0a16_9 (by decide) (fun c_9 => ?_) (fun c_9 => ?_)
      · have hz := rfl (a := 0)
        have n_10 : nk ≤ v3w5 := (iLE (a := nk) (b := v3w5) (by omega) (by omega)).mp c_9
        rw [hQ]
        exact W.vret hx hb hr (fun t ht hW9 => ⟨⟨M_7, rfl, ⟨hW, hF, trivial⟩, ⟨by rw [ht]; exact hP, hD⟩⟩, hS.F ht⟩) hS.2.2 dJ7_fill_d0a16_22
      · have hz := rfl (a := 0)
        have n_11 : ¬ (nk ≤ v3w5) := fun q => c_9 ((iLE (a := nk) (b := v3w5) (by omega) (by omega)).mpr q)
        refine lv_aload_n hx hb dJ7_fill_d0a16_12 rfl (lv_at hl 2 rfl) ?_
        refine lv_iload_n hx hb dJ7_fill_d0a16_13 rfl (lv_at hl 1 rfl) ?_
        refine lv_lload_n hx hb dJ7_fill_d0a16_14 rfl (lv_at hl 3 rfl) ?_
        obtain ⟨f12, hM12⟩ := hW.open_68 ik1
        refine pg_last hx hb hK hP hD hS ik1.1 1 hM12 rfl (inbN v3w5 nk (by omega) (by omega)) dJ7_fill_d0a16_15 (fun H_13 locs hP hD hS => ?_)
        obtain ⟨M_14, eM_14⟩ : ∃ M1 : Hp, M1 = va_up M_7 k1 (.inl (cy 15, nk, .inr (.inl (vp_updL f12 ((nI v3w5) : Int32).toNatClampNeg k2)))) := ⟨_, rfl⟩
        have hP : va_P D vwCl ([] ++ va_pl L M_14) H_13 := by rw [eM_14]; exact hP
        have hD : va_D A ([] ++ va_pl L M_14) := by rw [eM_14]; exact hD
        have hW : WOK cy K L M_14 := by rw [eM_14]; exact hW.up_68 ik1 ⟨_, rfl⟩
        have hF : fr K L [68] M M_14 := by rw [eM_14]; exact hF.up ik1 (by decide)
        have hM_15 : M_14 k1 = .inl (cy 15, nk, .inr (.inl (vp_updL f12 ((nI v3w5) : Int32).toNatClampNeg k2))) := by rw [eM_14]; exact va_up_self _ _ _
        obtain ⟨f_16, ef_16⟩ : ∃ f : Nat → Int64, f = vp_updL f12 ((nI v3w5) : Int32).toNatClampNeg k2 := ⟨_, rfl⟩
        rw [← ef_16] at hM_15
        clear ef_16
        refine lv_iinc (v := (nI (v3w5 + 1))) (lv' := [(3, .int (nI (v3w5 + 1))), (4, .int (nI nk)), (0, .ref k1), (1, .long k2)]) hx hb dJ7_fill_d0a16_16 hl (k := 1) rfl (nI_1 v3w5) (by decide) rfl (fun ls hl => ?_)
        refine lv_goto (tgt := 6) hx hb dJ7_fill_d0a16_19 (by decide) ?_
        exact ih_3 (v3w5 + 1) M_14 H_13 _ _ (by omega) (by omega) hW hF hP hD hS (lv_sub hl [1, 0, 2, 3] rfl)
  exact key_2 (nk - 0 + 1) 0 M s.heap _ _ (by omega) (by omega) hW hF hP hD hS (lv_sub hl [0, 1, 2, 3] rfl)
set_option maxHeartbeats 4000000 in
set_option maxRecDepth 100000 in
theorem s_J7_fill_d0a16_69 (l : Launch) (D : va_G) (cy : Nat → ClassId) (K : Kp) (L : List Nat) (M : Hp) (sz : Nat) (k1 : Nat) (nk : Nat) (k2 : Int64) (hW : WOK cy K L M) (ik1 : isk K L k1 69 nk) (hnk : nk ≤ 1000) : Met l yJ7_fill_d0a16 (wsM yJ7_fill_d0a16 cJ7_fill_d0a16 5 none) ({ frames := 0, cells := 0, slots := 0, locals := 0 }) (va_Pc [.ref k1, .long k2] (PG D cy [] L M sz)) (va_Qv (fun (M9 : Hp) => WOK cy K L M9 ∧ fr K L [69] M M9 ∧ (True)) (fun M9 t => PQ D [] L M9 (va_A ([] ++ va_pl L M) sz) t) (va_A ([] ++ va_pl L M) sz)) 0 0 (va_A ([] ++ va_pl L M) sz) := by
  refine Met.ofW (cc := cJ7_fill_d0a16) (maxL := 5) (ret := none) (by decide) rfl ?_
  intro p e s m args below meth c s₁ B hml hv
  obtain ⟨rfl, hsz, hP, hK, hD0, hN⟩ := hv
  have hx := B.exec
  have hb := B.bytes
  have hr := B.returns
  have hts := atoms_spec (ws := (wsM yJ7_fill_d0a16 cJ7_fill_d0a16 5 none)) B.pre
  have hg : ∀ w ∈ lw_good, w.before _ s = true := fun w h => hts w (List.mem_cons_of_mem _ h)
  have hown : s.vm.findClass RJ7 = some m.cls := findClass_of_methodNamed B.named
  have hlocks := B.notSynchronized
  subst hsz
  have hD := hD0.self (sz := s.heap.size)
  generalize hAe : va_A ([] ++ va_pl L M) s.heap.size = A at hD ⊢
  have hA : ∀ q : Nat, s.heap.size ≤ q → A q := fun q h => by rw [← hAe]; exact Or.inr h
  have hS : va_S A s.heap s.heap [] := va_S.rf
  have hl := lv_entry ([.ref k1, .long k2]) (n := 5) (Nat.le_of_ble_eq_true rfl)
  rw [lg_entry_eq]
  generalize (lg_sl ([.ref k1, .long k2]) ++ List.replicate (5 - (lg_sl ([.ref k1, .long k2])).length) Slot.unset).toArray = ls at hl ⊢
  refine W.nameQ (fun Q hQ => ?_)
  refine W.nameR (fun R hR => ?_)
  have hRf : 0 ≤ R.frames := by rw [hR]; exact Nat.le_of_ble_eq_true rfl
  have hRl : 0 ≤ R.locals := by rw [hR]; exact Nat.le_of_ble_eq_true rfl
  have hRc : 0 ≤ R.cells := by rw [hR]; exact Nat.le_of_ble_eq_true rfl
  have hRs : 0 ≤ R.slots := by rw [hR]; exact Nat.le_of_ble_eq_true rfl
  have hF : fr K L [69] M M := fr.rf
  have hl : lv_has ls 5 [(0, .ref k1), (1, .long k2)] := hl
  refine lv_iconst (v := 0) hx hb dJ7_fill_d0a16_0 (by decide) ?_
  refine lv_istore_n (lv' := [(3, .int 0), (0, .ref k1), (1, .long k2)]) hx hb dJ7_fill_d0a16_1 rfl hl (by decide) rfl (fun ls hl => ?_)
  refine lv_aload_n hx hb dJ7_fill_d0a16_2 rfl (lv_at hl 1 rfl) ?_
  obtain ⟨f1, hM1⟩ := hW.open_69 ik1
  refine pg_alen (v := (nI nk)) hx hb hK hP ik1.1 1 hM1 rfl (by rfl) dJ7_fill_d0a16_3 ?_
  refine lv_istore (lv' := [(4, .int (nI nk)), (3, .int 0), (0, .ref k1), (1, .long k2)]) hx hb dJ7_fill_d0a16_4 hl (by decide) rfl (fun ls hl => ?_)
  have key_2 : ∀ (fu_4 : Nat) (v3w5 : Nat) (M_7 : Hp) (H_8 : Heap) (locs : List Loc) (ls : Array Slot), nk - v3w5 < fu_4 → v3w5 ≤ nk → WOK cy K L M_7 → fr K L [69] M M_7 → va_P D vwCl ([] ++ va_pl L M_7) H_8 → va_D A ([] ++ va_pl L M_7) → va_S A s.heap H_8 locs → lv_has ls 5 [(4, .int (nI nk)), (3, .int (nI v3w5)), (0, .ref k1), (1, .long k2)] → W p l e R s m ([.ref k1, .long k2] : List Value).toArray below meth c H_8 locs 0 0 Q (F0 m 6 ls []) := by
    intro fu_4
    induction fu_4 with
    | zero => intro v3w5 M_7 H_8 locs ls h; exact absurd h (Nat.not_lt_zero _)
    | succ fu_4 ih_3 =>
      intro v3w5 M_7 H_8 locs ls hfu hx_6 hW hF hP hD hS hl
      refine lv_iload_n hx hb dJ7_fill_d0a16_6 rfl (lv_at hl 1 rfl) ?_
      refine lv_iload hx hb dJ7_fill_d0a16_7 (lv_at hl 0 rfl) ?_
      refine lv_icmp_ge (tgt := 22) hx hb dJ7_fill_d0a16_9 (by decide) (fun c_9 => ?_) (fun c_9 => ?_)
      · have hz := rfl (a := 0)
        have n_10 : nk ≤ v3w5 := (iLE (a := nk) (b := v3w5) (by omega) (by omega)).mp c_9
        rw [hQ]
        exact W.vret hx hb hr (fun t ht hW9 => ⟨⟨M_7, rfl, ⟨hW, hF, trivial⟩, ⟨by rw [ht]; exact hP, hD⟩⟩, hS.F ht⟩) hS.2.2 dJ7_fill_d0a16_22
      · have hz := rfl (a := 0)
        have n_11 : ¬ (nk ≤ v3w5) := fun q => c_9 ((iLE (a := nk) (b := v3w5) (by omega) (by omega)).mpr q)
        refine lv_aload_n hx hb dJ7_fill_d0a16_12 rfl (lv_at hl 2 rfl) ?_
        refine lv_iload_n hx hb dJ7_fill_d0a16_13 rfl (lv_at hl 1 rfl) ?_
        refine lv_lload_n hx hb dJ7_fill_d0a16_14 rfl (lv_at hl 3 rfl) ?_
        obtain ⟨f12, hM12⟩ := hW.open_69 ik1
        refine pg_last hx hb hK hP hD hS ik1.1 1 hM12 rfl (inbN v3w5 nk (by omega) (by omega)) dJ7_fill_d0a16_15 (fun H_13 locs hP hD hS => ?_)
        obtain ⟨M_14, eM_14⟩ : ∃ M1 : Hp, M1 = va_up M_7 k1 (.inl (cy 15, nk, .inr (.inl (vp_updL f12 ((nI v3w5) : Int32).toNatClampNeg k2)))) := ⟨_, rfl⟩
        have hP : va_P D vwCl ([] ++ va_pl L M_14) H_13 := by rw [eM_14]; exact hP
        have hD : va_D A ([] ++ va_pl L M_14) := by rw [eM_14]; exact hD
        have hW : WOK cy K L M_14 := by rw [eM_14]; exact hW.up_69 ik1 ⟨_, rfl⟩
        have hF : fr K L [69] M M_14 := by rw [eM_14]; exact hF.up ik1 (by decide)
        have hM_15 : M_14 k1 = .inl (cy 15, nk, .inr (.inl (vp_updL f12 ((nI v3w5) : Int32).toNatClampNeg k2))) := by rw [eM_14]; exact va_up_self _ _ _
        obtain ⟨f_16, ef_16⟩ : ∃ f : Nat → Int64, f = vp_updL f12 ((nI v3w5) : Int32).toNatClampNeg k2 := ⟨_, rfl⟩
        rw [← ef_16] at hM_15
        clear ef_16
        refine lv_iinc (v := (nI (v3w5 + 1))) (lv' := [(3, .int (nI (v3w5 + 1))), (4, .int (nI nk)), (0, .ref k1), (1, .long k2)]) hx hb dJ7_fill_d0a16_16 hl (k := 1) rfl (nI_1 v3w5) (by decide) rfl (fun ls hl => ?_)
        refine lv_goto (tgt := 6) hx hb dJ7_fill_d0a16_19 (by decide) ?_
        exact ih_3 (v3w5 + 1) M_14 H_13 _ _ (by omega) (by omega) hW hF hP hD hS (lv_sub hl [1, 0, 2, 3] rfl)
  exact key_2 (nk - 0 + 1) 0 M s.heap _ _ (by omega) (by omega) hW hF hP hD hS (lv_sub hl [0, 1, 2, 3] rfl)
set_option maxHeartbeats 4000000 in
set_option maxRecDepth 100000 in
theorem s_J7_fill_d0a16_70 (l : Launch) (D : va_G) (cy : Nat → ClassId) (K : Kp) (L : List Nat) (M : Hp) (sz : Nat) (k1 : Nat) (nk : Nat) (k2 : Int64) (hW : WOK cy K L M) (ik1 : isk K L k1 70 nk) (hnk : nk ≤ 1000) : Met l yJ7_fill_d0a16 (wsM yJ7_fill_d0a16 cJ7_fill_d0a16 5 none) ({ frames := 0, cells := 0, slots := 0, locals := 0 }) (va_Pc [.ref k1, .long k2] (PG D cy [] L M sz)) (va_Qv (fun (M9 : Hp) => WOK cy K L M9 ∧ fr K L [70] M M9 ∧ (True)) (fun M9 t => PQ D [] L M9 (va_A ([] ++ va_pl L M) sz) t) (va_A ([] ++ va_pl L M) sz)) 0 0 (va_A ([] ++ va_pl L M) sz) := by
  refine Met.ofW (cc := cJ7_fill_d0a16) (maxL := 5) (ret := none) (by decide) rfl ?_
  intro p e s m args below meth c s₁ B hml hv
  obtain ⟨rfl, hsz, hP, hK, hD0, hN⟩ := hv
  have hx := B.exec
  have hb := B.bytes
  have hr := B.returns
  have hts := atoms_spec (ws := (wsM yJ7_fill_d0a16 cJ7_fill_d0a16 5 none)) B.pre
  have hg : ∀ w ∈ lw_good, w.before _ s = true := fun w h => hts w (List.mem_cons_of_mem _ h)
  have hown : s.vm.findClass RJ7 = some m.cls := findClass_of_methodNamed B.named
  have hlocks := B.notSynchronized
  subst hsz
  have hD := hD0.self (sz := s.heap.size)
  generalize hAe : va_A ([] ++ va_pl L M) s.heap.size = A at hD ⊢
  have hA : ∀ q : Nat, s.heap.size ≤ q → A q := fun q h => by rw [← hAe]; exact Or.inr h
  have hS : va_S A s.heap s.heap [] := va_S.rf
  have hl := lv_entry ([.ref k1, .long k2]) (n := 5) (Nat.le_of_ble_eq_true rfl)
  rw [lg_entry_eq]
  generalize (lg_sl ([.ref k1, .long k2]) ++ List.replicate (5 - (lg_sl ([.ref k1, .long k2])).length) Slot.unset).toArray = ls at hl ⊢
  refine W.nameQ (fun Q hQ => ?_)
  refine W.nameR (fun R hR => ?_)
  have hRf : 0 ≤ R.frames := by rw [hR]; exact Nat.le_of_ble_eq_true rfl
  have hRl : 0 ≤ R.locals := by rw [hR]; exact Nat.le_of_ble_eq_true rfl
  have hRc : 0 ≤ R.cells := by rw [hR]; exact Nat.le_of_ble_eq_true rfl
  have hRs : 0 ≤ R.slots := by rw [hR]; exact Nat.le_of_ble_eq_true rfl
  have hF : fr K L [70] M M := fr.rf
  have hl : lv_has ls 5 [(0, .ref k1), (1, .long k2)] := hl
  refine lv_iconst (v := 0) hx hb dJ7_fill_d0a16_0 (by decide) ?_
  refine lv_istore_n (lv' := [(3, .int 0), (0, .ref k1), (1, .long k2)]) hx hb dJ7_fill_d0a16_1 rfl hl (by decide) rfl (fun ls hl => ?_)
  refine lv_aload_n hx hb dJ7_fill_d0a16_2 rfl (lv_at hl 1 rfl) ?_
  obtain ⟨f1, hM1⟩ := hW.open_70 ik1
  refine pg_alen (v := (nI nk)) hx hb hK hP ik1.1 1 hM1 rfl (by rfl) dJ7_fill_d0a16_3 ?_
  refine lv_istore (lv' := [(4, .int (nI nk)), (3, .int 0), (0, .ref k1), (1, .long k2)]) hx hb dJ7_fill_d0a16_4 hl (by decide) rfl (fun ls hl => ?_)
  have key_2 : ∀ (fu_4 : Nat) (v3w5 : Nat) (M_7 : Hp) (H_8 : Heap) (locs : List Loc) (ls : Array Slot), nk - v3w5 < fu_4 → v3w5 ≤ nk → WOK cy K L M_7 → fr K L [70] M M_7 → va_P D vwCl ([] ++ va_pl L M_7) H_8 → va_D A ([] ++ va_pl L M_7) → va_S A s.heap H_8 locs → lv_has ls 5 [(4, .int (nI nk)), (3, .int (nI v3w5)), (0, .ref k1), (1, .long k2)] → W p l e R s m ([.ref k1, .long k2] : List Value).toArray below meth c H_8 locs 0 0 Q (F0 m 6 ls []) := by
    intro fu_4
    induction fu_4 with
    | zero => intro v3w5 M_7 H_8 locs ls h; exact absurd h (Nat.not_lt_zero _)
    | succ fu_4 ih_3 =>
      intro v3w5 M_7 H_8 locs ls hfu hx_6 hW hF hP hD hS hl
      refine lv_iload_n hx hb dJ7_fill_d0a16_6 rfl (lv_at hl 1 rfl) ?_
      refine lv_iload hx hb dJ7_fill_d0a16_7 (lv_at hl 0 rfl) ?_
      refine lv_icmp_ge (tgt := 22) hx hb dJ7_fill_d0a16_9 (by decide) (fun c_9 => ?_) (fun c_9 => ?_)
      · have hz := rfl (a := 0)
        have n_10 : nk ≤ v3w5 := (iLE (a := nk) (b := v3w5) (by omega) (by omega)).mp c_9
        rw [hQ]
        exact W.vret hx hb hr (fun t ht hW9 => ⟨⟨M_7, rfl, ⟨hW, hF, trivial⟩, ⟨by rw [ht]; exact hP, hD⟩⟩, hS.F ht⟩) hS.2.2 dJ7_fill_d0a16_22
      · have hz := rfl (a := 0)
        have n_11 : ¬ (nk ≤ v3w5) := fun q => c_9 ((iLE (a := nk) (b := v3w5) (by omega) (by omega)).mpr q)
        refine lv_aload_n hx hb dJ7_fill_d0a16_12 rfl (lv_at hl 2 rfl) ?_
        refine lv_iload_n hx hb dJ7_fill_d0a16_13 rfl (lv_at hl 1 rfl) ?_
        refine lv_lload_n hx hb dJ7_fill_d0a16_14 rfl (lv_at hl 3 rfl) ?_
        obtain ⟨f12, hM12⟩ := hW.open_70 ik1
        refine pg_last hx hb hK hP hD hS ik1.1 1 hM12 rfl (inbN v3w5 nk (by omega) (by omega)) dJ7_fill_d0a16_15 (fun H_13 locs hP hD hS => ?_)
        obtain ⟨M_14, eM_14⟩ : ∃ M1 : Hp, M1 = va_up M_7 k1 (.inl (cy 15, nk, .inr (.inl (vp_updL f12 ((nI v3w5) : Int32).toNatClampNeg k2)))) := ⟨_, rfl⟩
        have hP : va_P D vwCl ([] ++ va_pl L M_14) H_13 := by rw [eM_14]; exact hP
        have hD : va_D A ([] ++ va_pl L M_14) := by rw [eM_14]; exact hD
        have hW : WOK cy K L M_14 := by rw [eM_14]; exact hW.up_70 ik1 ⟨_, rfl⟩
        have hF : fr K L [70] M M_14 := by rw [eM_14]; exact hF.up ik1 (by decide)
        have hM_15 : M_14 k1 = .inl (cy 15, nk, .inr (.inl (vp_updL f12 ((nI v3w5) : Int32).toNatClampNeg k2))) := by rw [eM_14]; exact va_up_self _ _ _
        obtain ⟨f_16, ef_16⟩ : ∃ f : Nat → Int64, f = vp_updL f12 ((nI v3w5) : Int32).toNatClampNeg k2 := ⟨_, rfl⟩
        rw [← ef_16] at hM_15
        clear ef_16
        refine lv_iinc (v := (nI (v3w5 + 1))) (lv' := [(3, .int (nI (v3w5 + 1))), (4, .int (nI nk)), (0, .ref k1), (1, .long k2)]) hx hb dJ7_fill_d0a16_16 hl (k := 1) rfl (nI_1 v3w5) (by decide) rfl (fun ls hl => ?_)
        refine lv_goto (tgt := 6) hx hb dJ7_fill_d0a16_19 (by decide) ?_
        exact ih_3 (v3w5 + 1) M_14 H_13 _ _ (by omega) (by omega) hW hF hP hD hS (lv_sub hl [1, 0, 2, 3] rfl)
  exact key_2 (nk - 0 + 1) 0 M s.heap _ _ (by omega) (by omega) hW hF hP hD hS (lv_sub hl [0, 1, 2, 3] rfl)
set_option maxHeartbeats 4000000 in
set_option maxRecDepth 100000 in
theorem s_J7_fill_d0a16_71 (l : Launch) (D : va_G) (cy : Nat → ClassId) (K : Kp) (L : List Nat) (M : Hp) (sz : Nat) (k1 : Nat) (nk : Nat) (k2 : Int64) (hW : WOK cy K L M) (ik1 : isk K L k1 71 nk) (hnk : nk ≤ 1000) : Met l yJ7_fill_d0a16 (wsM yJ7_fill_d0a16 cJ7_fill_d0a16 5 none) ({ frames := 0, cells := 0, slots := 0, locals := 0 }) (va_Pc [.ref k1, .long k2] (PG D cy [] L M sz)) (va_Qv (fun (M9 : Hp) => WOK cy K L M9 ∧ fr K L [71] M M9 ∧ (True)) (fun M9 t => PQ D [] L M9 (va_A ([] ++ va_pl L M) sz) t) (va_A ([] ++ va_pl L M) sz)) 0 0 (va_A ([] ++ va_pl L M) sz) := by
  refine Met.ofW (cc := cJ7_fill_d0a16) (maxL := 5) (ret := none) (by decide) rfl ?_
  intro p e s m args below meth c s₁ B hml hv
  obtain ⟨rfl, hsz, hP, hK, hD0, hN⟩ := hv
  have hx := B.exec
  have hb := B.bytes
  have hr := B.returns
  have hts := atoms_spec (ws := (wsM yJ7_fill_d0a16 cJ7_fill_d0a16 5 none)) B.pre
  have hg : ∀ w ∈ lw_good, w.before _ s = true := fun w h => hts w (List.mem_cons_of_mem _ h)
  have hown : s.vm.findClass RJ7 = some m.cls := findClass_of_methodNamed B.named
  have hlocks := B.notSynchronized
  subst hsz
  have hD := hD0.self (sz := s.heap.size)
  generalize hAe : va_A ([] ++ va_pl L M) s.heap.size = A at hD ⊢
  have hA : ∀ q : Nat, s.heap.size ≤ q → A q := fun q h => by rw [← hAe]; exact Or.inr h
  have hS : va_S A s.heap s.heap [] := va_S.rf
  have hl := lv_entry ([.ref k1, .long k2]) (n := 5) (Nat.le_of_ble_eq_true rfl)
  rw [lg_entry_eq]
  generalize (lg_sl ([.ref k1, .long k2]) ++ List.replicate (5 - (lg_sl ([.ref k1, .long k2])).length) Slot.unset).toArray = ls at hl ⊢
  refine W.nameQ (fun Q hQ => ?_)
  refine W.nameR (fun R hR => ?_)
  have hRf : 0 ≤ R.frames := by rw [hR]; exact Nat.le_of_ble_eq_true rfl
  have hRl : 0 ≤ R.locals := by rw [hR]; exact Nat.le_of_ble_eq_true rfl
  have hRc : 0 ≤ R.cells := by rw [hR]; exact Nat.le_of_ble_eq_true rfl
  have hRs : 0 ≤ R.slots := by rw [hR]; exact Nat.le_of_ble_eq_true rfl
  have hF : fr K L [71] M M := fr.rf
  have hl : lv_has ls 5 [(0, .ref k1), (1, .long k2)] := hl
  refine lv_iconst (v := 0) hx hb dJ7_fill_d0a16_0 (by decide) ?_
  refine lv_istore_n (lv' := [(3, .int 0), (0, .ref k1), (1, .long k2)]) hx hb dJ7_fill_d0a16_1 rfl hl (by decide) rfl (fun ls hl => ?_)
  refine lv_aload_n hx hb dJ7_fill_d0a16_2 rfl (lv_at hl 1 rfl) ?_
  obtain ⟨f1, hM1⟩ := hW.open_71 ik1
  refine pg_alen (v := (nI nk)) hx hb hK hP ik1.1 1 hM1 rfl (by rfl) dJ7_fill_d0a16_3 ?_
  refine lv_istore (lv' := [(4, .int (nI nk)), (3, .int 0), (0, .ref k1), (1, .long k2)]) hx hb dJ7_fill_d0a16_4 hl (by decide) rfl (fun ls hl => ?_)
  have key_2 : ∀ (fu_4 : Nat) (v3w5 : Nat) (M_7 : Hp) (H_8 : Heap) (locs : List Loc) (ls : Array Slot), nk - v3w5 < fu_4 → v3w5 ≤ nk → WOK cy K L M_7 → fr K L [71] M M_7 → va_P D vwCl ([] ++ va_pl L M_7) H_8 → va_D A ([] ++ va_pl L M_7) → va_S A s.heap H_8 locs → lv_has ls 5 [(4, .int (nI nk)), (3, .int (nI v3w5)), (0, .ref k1), (1, .long k2)] → W p l e R s m ([.ref k1, .long k2] : List Value).toArray below meth c H_8 locs 0 0 Q (F0 m 6 ls []) := by
    intro fu_4
    induction fu_4 with
    | zero => intro v3w5 M_7 H_8 locs ls h; exact absurd h (Nat.not_lt_zero _)
    | succ fu_4 ih_3 =>
      intro v3w5 M_7 H_8 locs ls hfu hx_6 hW hF hP hD hS hl
      refine lv_iload_n hx hb dJ7_fill_d0a16_6 rfl (lv_at hl 1 rfl) ?_
      refine lv_iload hx hb dJ7_fill_d0a16_7 (lv_at hl 0 rfl) ?_
      refine lv_icmp_ge (tgt := 22) hx hb dJ7_fill_d0a16_9 (by decide) (fun c_9 => ?_) (fun c_9 => ?_)
      · have hz := rfl (a := 0)
        have n_10 : nk ≤ v3w5 := (iLE (a := nk) (b := v3w5) (by omega) (by omega)).mp c_9
        rw [hQ]
        exact W.vret hx hb hr (fun t ht hW9 => ⟨⟨M_7, rfl, ⟨hW, hF, trivial⟩, ⟨by rw [ht]; exact hP, hD⟩⟩, hS.F ht⟩) hS.2.2 dJ7_fill_d0a16_22
      · have hz := rfl (a := 0)
        have n_11 : ¬ (nk ≤ v3w5) := fun q => c_9 ((iLE (a := nk) (b := v3w5) (by omega) (by omega)).mpr q)
        refine lv_aload_n hx hb dJ7_fill_d0a16_12 rfl (lv_at hl 2 rfl) ?_
        refine lv_iload_n hx hb dJ7_fill_d0a16_13 rfl (lv_at hl 1 rfl) ?_
        refine lv_lload_n hx hb dJ7_fill_d0a16_14 rfl (lv_at hl 3 rfl) ?_
        obtain ⟨f12, hM12⟩ := hW.open_71 ik1
        refine pg_last hx hb hK hP hD hS ik1.1 1 hM12 rfl (inbN v3w5 nk (by omega) (by omega)) dJ7_fill_d0a16_15 (fun H_13 locs hP hD hS => ?_)
        obtain ⟨M_14, eM_14⟩ : ∃ M1 : Hp, M1 = va_up M_7 k1 (.inl (cy 15, nk, .inr (.inl (vp_updL f12 ((nI v3w5) : Int32).toNatClampNeg k2)))) := ⟨_, rfl⟩
        have hP : va_P D vwCl ([] ++ va_pl L M_14) H_13 := by rw [eM_14]; exact hP
        have hD : va_D A ([] ++ va_pl L M_14) := by rw [eM_14]; exact hD
        have hW : WOK cy K L M_14 := by rw [eM_14]; exact hW.up_71 ik1 ⟨_, rfl⟩
        have hF : fr K L [71] M M_14 := by rw [eM_14]; exact hF.up ik1 (by decide)
        have hM_15 : M_14 k1 = .inl (cy 15, nk, .inr (.inl (vp_updL f12 ((nI v3w5) : Int32).toNatClampNeg k2))) := by rw [eM_14]; exact va_up_self _ _ _
        obtain ⟨f_16, ef_16⟩ : ∃ f : Nat → Int64, f = vp_updL f12 ((nI v3w5) : Int32).toNatClampNeg k2 := ⟨_, rfl⟩
        rw [← ef_16] at hM_15
        clear ef_16
        refine lv_iinc (v := (nI (v3w5 + 1))) (lv' := [(3, .int (nI (v3w5 + 1))), (4, .int (nI nk)), (0, .ref k1), (1, .long k2)]) hx hb dJ7_fill_d0a16_16 hl (k := 1) rfl (nI_1 v3w5) (by decide) rfl (fun ls hl => ?_)
        refine lv_goto (tgt := 6) hx hb dJ7_fill_d0a16_19 (by decide) ?_
        exact ih_3 (v3w5 + 1) M_14 H_13 _ _ (by omega) (by omega) hW hF hP hD hS (lv_sub hl [1, 0, 2, 3] rfl)
  exact key_2 (nk - 0 + 1) 0 M s.heap _ _ (by omega) (by omega) hW hF hP hD hS (lv_sub hl [0, 1, 2, 3] rfl)
set_option maxHeartbeats 4000000 in
set_option maxRecDepth 100000 in
theorem s_J7_fill_d0a16_72 (l : Launch) (D : va_G) (cy : Nat → ClassId) (K : Kp) (L : List Nat) (M : Hp) (sz : Nat) (k1 : Nat) (nk : Nat) (k2 : Int64) (hW : WOK cy K L M) (ik1 : isk K L k1 72 nk) (hnk : nk ≤ 1000) : Met l yJ7_fill_d0a16 (wsM yJ7_fill_d0a16 cJ7_fill_d0a16 5 none) ({ frames := 0, cells := 0, slots := 0, locals := 0 }) (va_Pc [.ref k1, .long k2] (PG D cy [] L M sz)) (va_Qv (fun (M9 : Hp) => WOK cy K L M9 ∧ fr K L [72] M M9 ∧ (True)) (fun M9 t => PQ D [] L M9 (va_A ([] ++ va_pl L M) sz) t) (va_A ([] ++ va_pl L M) sz)) 0 0 (va_A ([] ++ va_pl L M) sz) := by
  refine Met.ofW (cc := cJ7_fill_d0a16) (maxL := 5) (ret := none) (by decide) rfl ?_
  intro p e s m args below meth c s₁ B hml hv
  obtain ⟨rfl, hsz, hP, hK, hD0, hN⟩ := hv
  have hx := B.exec
  have hb := B.bytes
  have hr := B.returns
  have hts := atoms_spec (ws := (wsM yJ7_fill_d0a16 cJ7_fill_d0a16 5 none)) B.pre
  have hg : ∀ w ∈ lw_good, w.before _ s = true := fun w h => hts w (List.mem_cons_of_mem _ h)
  have hown : s.vm.findClass RJ7 = some m.cls := findClass_of_methodNamed B.named
  have hlocks := B.notSynchronized
  subst hsz
  have hD := hD0.self (sz := s.heap.size)
  generalize hAe : va_A ([] ++ va_pl L M) s.heap.size = A at hD ⊢
  have hA : ∀ q : Nat, s.heap.size ≤ q → A q := fun q h => by rw [← hAe]; exact Or.inr h
  have hS : va_S A s.heap s.heap [] := va_S.rf
  have hl := lv_entry ([.ref k1, .long k2]) (n := 5) (Nat.le_of_ble_eq_true rfl)
  rw [lg_entry_eq]
  generalize (lg_sl ([.ref k1, .long k2]) ++ List.replicate (5 - (lg_sl ([.ref k1, .long k2])).length) Slot.unset).toArray = ls at hl ⊢
  refine W.nameQ (fun Q hQ => ?_)
  refine W.nameR (fun R hR => ?_)
  have hRf : 0 ≤ R.frames := by rw [hR]; exact Nat.le_of_ble_eq_true rfl
  have hRl : 0 ≤ R.locals := by rw [hR]; exact Nat.le_of_ble_eq_true rfl
  have hRc : 0 ≤ R.cells := by rw [hR]; exact Nat.le_of_ble_eq_true rfl
  have hRs : 0 ≤ R.slots := by rw [hR]; exact Nat.le_of_ble_eq_true rfl
  have hF : fr K L [72] M M := fr.rf
  have hl : lv_has ls 5 [(0, .ref k1), (1, .long k2)] := hl
  refine lv_iconst (v := 0) hx hb dJ7_fill_d0a16_0 (by decide) ?_
  refine lv_istore_n (lv' := [(3, .int 0), (0, .ref k1), (1, .long k2)]) hx hb dJ7_fill_d0a16_1 rfl hl (by decide) rfl (fun ls hl => ?_)
  refine lv_aload_n hx hb dJ7_fill_d0a16_2 rfl (lv_at hl 1 rfl) ?_
  obtain ⟨f1, hM1⟩ := hW.open_72 ik1
  refine pg_alen (v := (nI nk)) hx hb hK hP ik1.1 1 hM1 rfl (by rfl) dJ7_fill_d0a16_3 ?_
  refine lv_istore (lv' := [(4, .int (nI nk)), (3, .int 0), (0, .ref k1), (1, .long k2)]) hx hb dJ7_fill_d0a16_4 hl (by decide) rfl (fun ls hl => ?_)
  have key_2 : ∀ (fu_4 : Nat) (v3w5 : Nat) (M_7 : Hp) (H_8 : Heap) (locs : List Loc) (ls : Array Slot), nk - v3w5 < fu_4 → v3w5 ≤ nk → WOK cy K L M_7 → fr K L [72] M M_7 → va_P D vwCl ([] ++ va_pl L M_7) H_8 → va_D A ([] ++ va_pl L M_7) → va_S A s.heap H_8 locs → lv_has ls 5 [(4, .int (nI nk)), (3, .int (nI v3w5)), (0, .ref k1), (1, .long k2)] → W p l e R s m ([.ref k1, .long k2] : List Value).toArray below meth c H_8 locs 0 0 Q (F0 m 6 ls []) := by
    intro fu_4
    induction fu_4 with
    | zero => intro v3w5 M_7 H_8 locs ls h; exact absurd h (Nat.not_lt_zero _)
    | succ fu_4 ih_3 =>
      intro v3w5 M_7 H_8 locs ls hfu hx_6 hW hF hP hD hS hl
      refine lv_iload_n hx hb dJ7_fill_d0a16_6 rfl (lv_at hl 1 rfl) ?_
      refine lv_iload hx hb dJ7_fill_d0a16_7 (lv_at hl 0 rfl) ?_
      refine lv_icmp_ge (tgt := 22) hx hb dJ7_fill_d0a16_9 (by decide) (fun c_9 => ?_) (fun c_9 => ?_)
      · have hz := rfl (a := 0)
        have n_10 : nk ≤ v3w5 := (iLE (a := nk) (b := v3w5) (by omega) (by omega)).mp c_9
        rw [hQ]
        exact W.vret hx hb hr (fun t ht hW9 => ⟨⟨M_7, rfl, ⟨hW, hF, trivial⟩, ⟨by rw [ht]; exact hP, hD⟩⟩, hS.F ht⟩) hS.2.2 dJ7_fill_d0a16_22
      · have hz := rfl (a := 0)
        have n_11 : ¬ (nk ≤ v3w5) := fun q => c_9 ((iLE (a := nk) (b := v3w5) (by omega) (by omega)).mpr q)
        refine lv_aload_n hx hb dJ7_fill_d0a16_12 rfl (lv_at hl 2 rfl) ?_
        refine lv_iload_n hx hb dJ7_fill_d0a16_13 rfl (lv_at hl 1 rfl) ?_
        refine lv_lload_n hx hb dJ7_fill_d0a16_14 rfl (lv_at hl 3 rfl) ?_
        obtain ⟨f12, hM12⟩ := hW.open_72 ik1
        refine pg_last hx hb hK hP hD hS ik1.1 1 hM12 rfl (inbN v3w5 nk (by omega) (by omega)) dJ7_fill_d0a16_15 (fun H_13 locs hP hD hS => ?_)
        obtain ⟨M_14, eM_14⟩ : ∃ M1 : Hp, M1 = va_up M_7 k1 (.inl (cy 15, nk, .inr (.inl (vp_updL f12 ((nI v3w5) : Int32).toNatClampNeg k2)))) := ⟨_, rfl⟩
        have hP : va_P D vwCl ([] ++ va_pl L M_14) H_13 := by rw [eM_14]; exact hP
        have hD : va_D A ([] ++ va_pl L M_14) := by rw [eM_14]; exact hD
        have hW : WOK cy K L M_14 := by rw [eM_14]; exact hW.up_72 ik1 ⟨_, rfl⟩
        have hF : fr K L [72] M M_14 := by rw [eM_14]; exact hF.up ik1 (by decide)
        have hM_15 : M_14 k1 = .inl (cy 15, nk, .inr (.inl (vp_updL f12 ((nI v3w5) : Int32).toNatClampNeg k2))) := by rw [eM_14]; exact va_up_self _ _ _
        obtain ⟨f_16, ef_16⟩ : ∃ f : Nat → Int64, f = vp_updL f12 ((nI v3w5) : Int32).toNatClampNeg k2 := ⟨_, rfl⟩
        rw [← ef_16] at hM_15
        clear ef_16
        refine lv_iinc (v := (nI (v3w5 + 1))) (lv' := [(3, .int (nI (v3w5 + 1))), (4, .int (nI nk)), (0, .ref k1), (1, .long k2)]) hx hb dJ7_fill_d0a16_16 hl (k := 1) rfl (nI_1 v3w5) (by decide) rfl (fun ls hl => ?_)
        refine lv_goto (tgt := 6) hx hb dJ7_fill_d0a16_19 (by decide) ?_
        exact ih_3 (v3w5 + 1) M_14 H_13 _ _ (by omega) (by omega) hW hF hP hD hS (lv_sub hl [1, 0, 2, 3] rfl)
  exact key_2 (nk - 0 + 1) 0 M s.heap _ _ (by omega) (by omega) hW hF hP hD hS (lv_sub hl [0, 1, 2, 3] rfl)
set_option maxHeartbeats 4000000 in
set_option maxRecDepth 100000 in
theorem s_J7_fill_d0a16_73 (l : Launch) (D : va_G) (cy : Nat → ClassId) (K : Kp) (L : List Nat) (M : Hp) (sz : Nat) (k1 : Nat) (nk : Nat) (k2 : Int64) (hW : WOK cy K L M) (ik1 : isk K L k1 73 nk) (hnk : nk ≤ 1000) : Met l yJ7_fill_d0a16 (wsM yJ7_fill_d0a16 cJ7_fill_d0a16 5 none) ({ frames := 0, cells := 0, slots := 0, locals := 0 }) (va_Pc [.ref k1, .long k2] (PG D cy [] L M sz)) (va_Qv (fun (M9 : Hp) => WOK cy K L M9 ∧ fr K L [73] M M9 ∧ (True)) (fun M9 t => PQ D [] L M9 (va_A ([] ++ va_pl L M) sz) t) (va_A ([] ++ va_pl L M) sz)) 0 0 (va_A ([] ++ va_pl L M) sz) := by
  refine Met.ofW (cc := cJ7_fill_d0a16) (maxL := 5) (ret := none) (by decide) rfl ?_
  intro p e s m args below meth c s₁ B hml hv
  obtain ⟨rfl, hsz, hP, hK, hD0, hN⟩ := hv
  have hx := B.exec
  have hb := B.bytes
  have hr := B.returns
  have hts := atoms_spec (ws := (wsM yJ7_fill_d0a16 cJ7_fill_d0a16 5 none)) B.pre
  have hg : ∀ w ∈ lw_good, w.before _ s = true := fun w h => hts w (List.mem_cons_of_mem _ h)
  have hown : s.vm.findClass RJ7 = some m.cls := findClass_of_methodNamed B.named
  have hlocks := B.notSynchronized
  subst hsz
  have hD := hD0.self (sz := s.heap.size)
  generalize hAe : va_A ([] ++ va_pl L M) s.heap.size = A at hD ⊢
  have hA : ∀ q : Nat, s.heap.size ≤ q → A q := fun q h => by rw [← hAe]; exact Or.inr h
  have hS : va_S A s.heap s.heap [] := va_S.rf
  have hl := lv_entry ([.ref k1, .long k2]) (n := 5) (Nat.le_of_ble_eq_true rfl)
  rw [lg_entry_eq]
  generalize (lg_sl ([.ref k1, .long k2]) ++ List.replicate (5 - (lg_sl ([.ref k1, .long k2])).length) Slot.unset).toArray = ls at hl ⊢
  refine W.nameQ (fun Q hQ => ?_)
  refine W.nameR (fun R hR => ?_)
  have hRf : 0 ≤ R.frames := by rw [hR]; exact Nat.le_of_ble_eq_true rfl
  have hRl : 0 ≤ R.locals := by rw [hR]; exact Nat.le_of_ble_eq_true rfl
  have hRc : 0 ≤ R.cells := by rw [hR]; exact Nat.le_of_ble_eq_true rfl
  have hRs : 0 ≤ R.slots := by rw [hR]; exact Nat.le_of_ble_eq_true rfl
  have hF : fr K L [73] M M := fr.rf
  have hl : lv_has ls 5 [(0, .ref k1), (1, .long k2)] := hl
  refine lv_iconst (v := 0) hx hb dJ7_fill_d0a16_0 (by decide) ?_
  refine lv_istore_n (lv' := [(3, .int 0), (0, .ref k1), (1, .long k2)]) hx hb dJ7_fill_d0a16_1 rfl hl (by decide) rfl (fun ls hl => ?_)
  refine lv_aload_n hx hb dJ7_fill_d0a16_2 rfl (lv_at hl 1 rfl) ?_
  obtain ⟨f1, hM1⟩ := hW.open_73 ik1
  refine pg_alen (v := (nI nk)) hx hb hK hP ik1.1 1 hM1 rfl (by rfl) dJ7_fill_d0a16_3 ?_
  refine lv_istore (lv' := [(4, .int (nI nk)), (3, .int 0), (0, .ref k1), (1, .long k2)]) hx hb dJ7_fill_d0a16_4 hl (by decide) rfl (fun ls hl => ?_)
  have key_2 : ∀ (fu_4 : Nat) (v3w5 : Nat) (M_7 : Hp) (H_8 : Heap) (locs : List Loc) (ls : Array Slot), nk - v3w5 < fu_4 → v3w5 ≤ nk → WOK cy K L M_7 → fr K L [73] M M_7 → va_P D vwCl ([] ++ va_pl L M_7) H_8 → va_D A ([] ++ va_pl L M_7) → va_S A s.heap H_8 locs → lv_has ls 5 [(4, .int (nI nk)), (3, .int (nI v3w5)), (0, .ref k1), (1, .long k2)] → W p l e R s m ([.ref k1, .long k2] : List Value).toArray below meth c H_8 locs 0 0 Q (F0 m 6 ls []) := by
    intro fu_4
    induction fu_4 with
    | zero => intro v3w5 M_7 H_8 locs ls h; exact absurd h (Nat.not_lt_zero _)
    | succ fu_4 ih_3 =>
      intro v3w5 M_7 H_8 locs ls hfu hx_6 hW hF hP hD hS hl
      refine lv_iload_n hx hb dJ7_fill_d0a16_6 rfl (lv_at hl 1 rfl) ?_
      refine lv_iload hx hb dJ7_fill_d0a16_7 (lv_at hl 0 rfl) ?_
      refine lv_icmp_ge (tgt := 22) hx hb dJ7_fill_d0a16_9 (by decide) (fun c_9 => ?_) (fun c_9 => ?_)
      · have hz := rfl (a := 0)
        have n_10 : nk ≤ v3w5 := (iLE (a := nk) (b := v3w5) (by omega) (by omega)).mp c_9
        rw [hQ]
        exact W.vret hx hb hr (fun t ht hW9 => ⟨⟨M_7, rfl, ⟨hW, hF, trivial⟩, ⟨by rw [ht]; exact hP, hD⟩⟩, hS.F ht⟩) hS.2.2 dJ7_fill_d0a16_22
      · have hz := rfl (a := 0)
        have n_11 : ¬ (nk ≤ v3w5) := fun q => c_9 ((iLE (a := nk) (b := v3w5) (by omega) (by omega)).mpr q)
        refine lv_aload_n hx hb dJ7_fill_d0a16_12 rfl (lv_at hl 2 rfl) ?_
        refine lv_iload_n hx hb dJ7_fill_d0a16_13 rfl (lv_at hl 1 rfl) ?_
        refine lv_lload_n hx hb dJ7_fill_d0a16_14 rfl (lv_at hl 3 rfl) ?_
        obtain ⟨f12, hM12⟩ := hW.open_73 ik1
        refine pg_last hx hb hK hP hD hS ik1.1 1 hM12 rfl (inbN v3w5 nk (by omega) (by omega)) dJ7_fill_d0a16_15 (fun H_13 locs hP hD hS => ?_)
        obtain ⟨M_14, eM_14⟩ : ∃ M1 : Hp, M1 = va_up M_7 k1 (.inl (cy 15, nk, .inr (.inl (vp_updL f12 ((nI v3w5) : Int32).toNatClampNeg k2)))) := ⟨_, rfl⟩
        have hP : va_P D vwCl ([] ++ va_pl L M_14) H_13 := by rw [eM_14]; exact hP
        have hD : va_D A ([] ++ va_pl L M_14) := by rw [eM_14]; exact hD
        have hW : WOK cy K L M_14 := by rw [eM_14]; exact hW.up_73 ik1 ⟨_, rfl⟩
        have hF : fr K L [73] M M_14 := by rw [eM_14]; exact hF.up ik1 (by decide)
        have hM_15 : M_14 k1 = .inl (cy 15, nk, .inr (.inl (vp_updL f12 ((nI v3w5) : Int32).toNatClampNeg k2))) := by rw [eM_14]; exact va_up_self _ _ _
        obtain ⟨f_16, ef_16⟩ : ∃ f : Nat → Int64, f = vp_updL f12 ((nI v3w5) : Int32).toNatClampNeg k2 := ⟨_, rfl⟩
        rw [← ef_16] at hM_15
        clear ef_16
        refine lv_iinc (v := (nI (v3w5 + 1))) (lv' := [(3, .int (nI (v3w5 + 1))), (4, .int (nI nk)), (0, .ref k1), (1, .long k2)]) hx hb dJ7_fill_d0a16_16 hl (k := 1) rfl (nI_1 v3w5) (by decide) rfl (fun ls hl => ?_)
        refine lv_goto (tgt := 6) hx hb dJ7_fill_d0a16_19 (by decide) ?_
        exact ih_3 (v3w5 + 1) M_14 H_13 _ _ (by omega) (by omega) hW hF hP hD hS (lv_sub hl [1, 0, 2, 3] rfl)
  exact key_2 (nk - 0 + 1) 0 M s.heap _ _ (by omega) (by omega) hW hF hP hD hS (lv_sub hl [0, 1, 2, 3] rfl)
set_option maxHeartbeats 4000000 in
set_option maxRecDepth 100000 in
theorem s_J7_fill_53178_58 (l : Launch) (D : va_G) (cy : Nat → ClassId) (K : Kp) (L : List Nat) (M : Hp) (sz : Nat) (k1 : Nat) (nk : Nat) (k2 : Int32) (hW : WOK cy K L M) (ik1 : isk K L k1 58 nk) (hnk : nk ≤ 1000) : Met l yJ7_fill_53178 (wsM yJ7_fill_53178 cJ7_fill_53178 4 none) ({ frames := 0, cells := 0, slots := 0, locals := 0 }) (va_Pc [.ref k1, .int k2] (PG D cy [] L M sz)) (va_Qv (fun (M9 : Hp) => WOK cy K L M9 ∧ fr K L [58] M M9 ∧ (True)) (fun M9 t => PQ D [] L M9 (va_A ([] ++ va_pl L M) sz) t) (va_A ([] ++ va_pl L M) sz)) 0 0 (va_A ([] ++ va_pl L M) sz) := by
  refine Met.ofW (cc := cJ7_fill_53178) (maxL := 4) (ret := none) (by decide) rfl ?_
  intro p e s m args below meth c s₁ B hml hv
  obtain ⟨rfl, hsz, hP, hK, hD0, hN⟩ := hv
  have hx := B.exec
  have hb := B.bytes
  have hr := B.returns
  have hts := atoms_spec (ws := (wsM yJ7_fill_53178 cJ7_fill_53178 4 none)) B.pre
  have hg : ∀ w ∈ lw_good, w.before _ s = true := fun w h => hts w (List.mem_cons_of_mem _ h)
  have hown : s.vm.findClass RJ7 = some m.cls := findClass_of_methodNamed B.named
  have hlocks := B.notSynchronized
  subst hsz
  have hD := hD0.self (sz := s.heap.size)
  generalize hAe : va_A ([] ++ va_pl L M) s.heap.size = A at hD ⊢
  have hA : ∀ q : Nat, s.heap.size ≤ q → A q := fun q h => by rw [← hAe]; exact Or.inr h
  have hS : va_S A s.heap s.heap [] := va_S.rf
  have hl := lv_entry ([.ref k1, .int k2]) (n := 4) (Nat.le_of_ble_eq_true rfl)
  rw [lg_entry_eq]
  generalize (lg_sl ([.ref k1, .int k2]) ++ List.replicate (4 - (lg_sl ([.ref k1, .int k2])).length) Slot.unset).toArray = ls at hl ⊢
  refine W.nameQ (fun Q hQ => ?_)
  refine W.nameR (fun R hR => ?_)
  have hRf : 0 ≤ R.frames := by rw [hR]; exact Nat.le_of_ble_eq_true rfl
  have hRl : 0 ≤ R.locals := by rw [hR]; exact Nat.le_of_ble_eq_true rfl
  have hRc : 0 ≤ R.cells := by rw [hR]; exact Nat.le_of_ble_eq_true rfl
  have hRs : 0 ≤ R.slots := by rw [hR]; exact Nat.le_of_ble_eq_true rfl
  have hF : fr K L [58] M M := fr.rf
  have hl : lv_has ls 4 [(0, .ref k1), (1, .int k2)] := hl
  refine lv_iconst (v := 0) hx hb dJ7_fill_53178_0 (by decide) ?_
  refine lv_istore_n (lv' := [(2, .int 0), (0, .ref k1), (1, .int k2)]) hx hb dJ7_fill_53178_1 rfl hl (by decide) rfl (fun ls hl => ?_)
  refine lv_aload_n hx hb dJ7_fill_53178_2 rfl (lv_at hl 1 rfl) ?_
  obtain ⟨f1, hM1⟩ := hW.open_58 ik1
  refine pg_alen (v := (nI nk)) hx hb hK hP ik1.1 0 hM1 rfl (by rfl) dJ7_fill_53178_3 ?_
  refine lv_istore_n (lv' := [(3, .int (nI nk)), (2, .int 0), (0, .ref k1), (1, .int k2)]) hx hb dJ7_fill_53178_4 rfl hl (by decide) rfl (fun ls hl => ?_)
  have key_2 : ∀ (fu_4 : Nat) (v2w5 : Nat) (M_7 : Hp) (H_8 : Heap) (locs : List Loc) (ls : Array Slot), nk - v2w5 < fu_4 → v2w5 ≤ nk → WOK cy K L M_7 → fr K L [58] M M_7 → va_P D vwCl ([] ++ va_pl L M_7) H_8 → va_D A ([] ++ va_pl L M_7) → va_S A s.heap H_8 locs → lv_has ls 4 [(3, .int (nI nk)), (2, .int (nI v2w5)), (0, .ref k1), (1, .int k2)] → W p l e R s m ([.ref k1, .int k2] : List Value).toArray below meth c H_8 locs 0 0 Q (F0 m 5 ls []) := by
    intro fu_4
    induction fu_4 with
    | zero => intro v2w5 M_7 H_8 locs ls h; exact absurd h (Nat.not_lt_zero _)
    | succ fu_4 ih_3 =>
      intro v2w5 M_7 H_8 locs ls hfu hx_6 hW hF hP hD hS hl
      refine lv_iload_n hx hb dJ7_fill_53178_5 rfl (lv_at hl 1 rfl) ?_
      refine lv_iload_n hx hb dJ7_fill_53178_6 rfl (lv_at hl 0 rfl) ?_
      refine lv_icmp_ge (tgt := 20) hx hb dJ7_fill_53178_7 (by decide) (fun c_9 => ?_) (fun c_9 => ?_)
      · have hz := rfl (a := 0)
        have n_10 : nk ≤ v2w5 := (iLE (a := nk) (b := v2w5) (by omega) (by omega)).mp c_9
        rw [hQ]
        exact W.vret hx hb hr (fun t ht hW9 => ⟨⟨M_7, rfl, ⟨hW, hF, trivial⟩, ⟨by rw [ht]; exact hP, hD⟩⟩, hS.F ht⟩) hS.2.2 dJ7_fill_53178_20
      · have hz := rfl (a := 0)
        have n_11 : ¬ (nk ≤ v2w5) := fun q => c_9 ((iLE (a := nk) (b := v2w5) (by omega) (by omega)).mpr q)
        refine lv_aload_n hx hb dJ7_fill_53178_10 rfl (lv_at hl 2 rfl) ?_
        refine lv_iload_n hx hb dJ7_fill_53178_11 rfl (lv_at hl 1 rfl) ?_
        refine lv_iload_n hx hb dJ7_fill_53178_12 rfl (lv_at hl 3 rfl) ?_
        obtain ⟨f12, hM12⟩ := hW.open_58 ik1
        refine pg_iast hx hb hK hP hD hS ik1.1 0 hM12 rfl (inbN v2w5 nk (by omega) (by omega)) dJ7_fill_53178_13 (fun H_13 locs hP hD hS => ?_)
        obtain ⟨M_14, eM_14⟩ : ∃ M1 : Hp, M1 = va_up M_7 k1 (.inl (cy 14, nk, .inl (upd f12 ((nI v2w5) : Int32).toNatClampNeg k2))) := ⟨_, rfl⟩
        have hP : va_P D vwCl ([] ++ va_pl L M_14) H_13 := by rw [eM_14]; exact hP
        have hD : va_D A ([] ++ va_pl L M_14) := by rw [eM_14]; exact hD
        have hW : WOK cy K L M_14 := by rw [eM_14]; exact hW.up_58 ik1 ⟨_, rfl⟩
        have hF : fr K L [58] M M_14 := by rw [eM_14]; exact hF.up ik1 (by decide)
        have hM_15 : M_14 k1 = .inl (cy 14, nk, .inl (upd f12 ((nI v2w5) : Int32).toNatClampNeg k2)) := by rw [eM_14]; exact va_up_self _ _ _
        obtain ⟨f_16, ef_16⟩ : ∃ f : Nat → Int32, f = upd f12 ((nI v2w5) : Int32).toNatClampNeg k2 := ⟨_, rfl⟩
        rw [← ef_16] at hM_15
        clear ef_16
        refine lv_iinc (v := (nI (v2w5 + 1))) (lv' := [(2, .int (nI (v2w5 + 1))), (3, .int (nI nk)), (0, .ref k1), (1, .int k2)]) hx hb dJ7_fill_53178_14 hl (k := 1) rfl (nI_1 v2w5) (by decide) rfl (fun ls hl => ?_)
        refine lv_goto (tgt := 5) hx hb dJ7_fill_53178_17 (by decide) ?_
        exact ih_3 (v2w5 + 1) M_14 H_13 _ _ (by omega) (by omega) hW hF hP hD hS (lv_sub hl [1, 0, 2, 3] rfl)
  exact key_2 (nk - 0 + 1) 0 M s.heap _ _ (by omega) (by omega) hW hF hP hD hS (lv_sub hl [0, 1, 2, 3] rfl)
set_option maxHeartbeats 4000000 in
set_option maxRecDepth 100000 in
theorem s_J7_fill_53178_59 (l : Launch) (D : va_G) (cy : Nat → ClassId) (K : Kp) (L : List Nat) (M : Hp) (sz : Nat) (k1 : Nat) (nk : Nat) (k2 : Int32) (hW : WOK cy K L M) (ik1 : isk K L k1 59 nk) (hnk : nk ≤ 1000) : Met l yJ7_fill_53178 (wsM yJ7_fill_53178 cJ7_fill_53178 4 none) ({ frames := 0, cells := 0, slots := 0, locals := 0 }) (va_Pc [.ref k1, .int k2] (PG D cy [] L M sz)) (va_Qv (fun (M9 : Hp) => WOK cy K L M9 ∧ fr K L [59] M M9 ∧ (True)) (fun M9 t => PQ D [] L M9 (va_A ([] ++ va_pl L M) sz) t) (va_A ([] ++ va_pl L M) sz)) 0 0 (va_A ([] ++ va_pl L M) sz) := by
  refine Met.ofW (cc := cJ7_fill_53178) (maxL := 4) (ret := none) (by decide) rfl ?_
  intro p e s m args below meth c s₁ B hml hv
  obtain ⟨rfl, hsz, hP, hK, hD0, hN⟩ := hv
  have hx := B.exec
  have hb := B.bytes
  have hr := B.returns
  have hts := atoms_spec (ws := (wsM yJ7_fill_53178 cJ7_fill_53178 4 none)) B.pre
  have hg : ∀ w ∈ lw_good, w.before _ s = true := fun w h => hts w (List.mem_cons_of_mem _ h)
  have hown : s.vm.findClass RJ7 = some m.cls := findClass_of_methodNamed B.named
  have hlocks := B.notSynchronized
  subst hsz
  have hD := hD0.self (sz := s.heap.size)
  generalize hAe : va_A ([] ++ va_pl L M) s.heap.size = A at hD ⊢
  have hA : ∀ q : Nat, s.heap.size ≤ q → A q := fun q h => by rw [← hAe]; exact Or.inr h
  have hS : va_S A s.heap s.heap [] := va_S.rf
  have hl := lv_entry ([.ref k1, .int k2]) (n := 4) (Nat.le_of_ble_eq_true rfl)
  rw [lg_entry_eq]
  generalize (lg_sl ([.ref k1, .int k2]) ++ List.replicate (4 - (lg_sl ([.ref k1, .int k2])).length) Slot.unset).toArray = ls at hl ⊢
  refine W.nameQ (fun Q hQ => ?_)
  refine W.nameR (fun R hR => ?_)
  have hRf : 0 ≤ R.frames := by rw [hR]; exact Nat.le_of_ble_eq_true rfl
  have hRl : 0 ≤ R.locals := by rw [hR]; exact Nat.le_of_ble_eq_true rfl
  have hRc : 0 ≤ R.cells := by rw [hR]; exact Nat.le_of_ble_eq_true rfl
  have hRs : 0 ≤ R.slots := by rw [hR]; exact Nat.le_of_ble_eq_true rfl
  have hF : fr K L [59] M M := fr.rf
  have hl : lv_has ls 4 [(0, .ref k1), (1, .int k2)] := hl
  refine lv_iconst (v := 0) hx hb dJ7_fill_53178_0 (by decide) ?_
  refine lv_istore_n (lv' := [(2, .int 0), (0, .ref k1), (1, .int k2)]) hx hb dJ7_fill_53178_1 rfl hl (by decide) rfl (fun ls hl => ?_)
  refine lv_aload_n hx hb dJ7_fill_53178_2 rfl (lv_at hl 1 rfl) ?_
  obtain ⟨f1, hM1⟩ := hW.open_59 ik1
  refine pg_alen (v := (nI nk)) hx hb hK hP ik1.1 0 hM1 rfl (by rfl) dJ7_fill_53178_3 ?_
  refine lv_istore_n (lv' := [(3, .int (nI nk)), (2, .int 0), (0, .ref k1), (1, .int k2)]) hx hb dJ7_fill_53178_4 rfl hl (by decide) rfl (fun ls hl => ?_)
  have key_2 : ∀ (fu_4 : Nat) (v2w5 : Nat) (M_7 : Hp) (H_8 : Heap) (locs : List Loc) (ls : Array Slot), nk - v2w5 < fu_4 → v2w5 ≤ nk → WOK cy K L M_7 → fr K L [59] M M_7 → va_P D vwCl ([] ++ va_pl L M_7) H_8 → va_D A ([] ++ va_pl L M_7) → va_S A s.heap H_8 locs → lv_has ls 4 [(3, .int (nI nk)), (2, .int (nI v2w5)), (0, .ref k1), (1, .int k2)] → W p l e R s m ([.ref k1, .int k2] : List Value).toArray below meth c H_8 locs 0 0 Q (F0 m 5 ls []) := by
    intro fu_4
    induction fu_4 with
    | zero => intro v2w5 M_7 H_8 locs ls h; exact absurd h (Nat.not_lt_zero _)
    | succ fu_4 ih_3 =>
      intro v2w5 M_7 H_8 locs ls hfu hx_6 hW hF hP hD hS hl
      refine lv_iload_n hx hb dJ7_fill_53178_5 rfl (lv_at hl 1 rfl) ?_
      refine lv_iload_n hx hb dJ7_fill_53178_6 rfl (lv_at hl 0 rfl) ?_
      refine lv_icmp_ge (tgt := 20) hx hb dJ7_fill_53178_7 (by decide) (fun c_9 => ?_) (fun c_9 => ?_)
      · have hz := rfl (a := 0)
        have n_10 : nk ≤ v2w5 := (iLE (a := nk) (b := v2w5) (by omega) (by omega)).mp c_9
        rw [hQ]
        exact W.vret hx hb hr (fun t ht hW9 => ⟨⟨M_7, rfl, ⟨hW, hF, trivial⟩, ⟨by rw [ht]; exact hP, hD⟩⟩, hS.F ht⟩) hS.2.2 dJ7_fill_53178_20
      · have hz := rfl (a := 0)
        have n_11 : ¬ (nk ≤ v2w5) := fun q => c_9 ((iLE (a := nk) (b := v2w5) (by omega) (by omega)).mpr q)
        refine lv_aload_n hx hb dJ7_fill_53178_10 rfl (lv_at hl 2 rfl) ?_
        refine lv_iload_n hx hb dJ7_fill_53178_11 rfl (lv_at hl 1 rfl) ?_
        refine lv_iload_n hx hb dJ7_fill_53178_12 rfl (lv_at hl 3 rfl) ?_
        obtain ⟨f12, hM12⟩ := hW.open_59 ik1
        refine pg_iast hx hb hK hP hD hS ik1.1 0 hM12 rfl (inbN v2w5 nk (by omega) (by omega)) dJ7_fill_53178_13 (fun H_13 locs hP hD hS => ?_)
        obtain ⟨M_14, eM_14⟩ : ∃ M1 : Hp, M1 = va_up M_7 k1 (.inl (cy 14, nk, .inl (upd f12 ((nI v2w5) : Int32).toNatClampNeg k2))) := ⟨_, rfl⟩
        have hP : va_P D vwCl ([] ++ va_pl L M_14) H_13 := by rw [eM_14]; exact hP
        have hD : va_D A ([] ++ va_pl L M_14) := by rw [eM_14]; exact hD
        have hW : WOK cy K L M_14 := by rw [eM_14]; exact hW.up_59 ik1 ⟨_, rfl⟩
        have hF : fr K L [59] M M_14 := by rw [eM_14]; exact hF.up ik1 (by decide)
        have hM_15 : M_14 k1 = .inl (cy 14, nk, .inl (upd f12 ((nI v2w5) : Int32).toNatClampNeg k2)) := by rw [eM_14]; exact va_up_self _ _ _
        obtain ⟨f_16, ef_16⟩ : ∃ f : Nat → Int32, f = upd f12 ((nI v2w5) : Int32).toNatClampNeg k2 := ⟨_, rfl⟩
        rw [← ef_16] at hM_15
        clear ef_16
        refine lv_iinc (v := (nI (v2w5 + 1))) (lv' := [(2, .int (nI (v2w5 + 1))), (3, .int (nI nk)), (0, .ref k1), (1, .int k2)]) hx hb dJ7_fill_53178_14 hl (k := 1) rfl (nI_1 v2w5) (by decide) rfl (fun ls hl => ?_)
        refine lv_goto (tgt := 5) hx hb dJ7_fill_53178_17 (by decide) ?_
        exact ih_3 (v2w5 + 1) M_14 H_13 _ _ (by omega) (by omega) hW hF hP hD hS (lv_sub hl [1, 0, 2, 3] rfl)
  exact key_2 (nk - 0 + 1) 0 M s.heap _ _ (by omega) (by omega) hW hF hP hD hS (lv_sub hl [0, 1, 2, 3] rfl)
set_option maxHeartbeats 4000000 in
set_option maxRecDepth 100000 in
theorem s_J7_fill_53178_60 (l : Launch) (D : va_G) (cy : Nat → ClassId) (K : Kp) (L : List Nat) (M : Hp) (sz : Nat) (k1 : Nat) (nk : Nat) (k2 : Int32) (hW : WOK cy K L M) (ik1 : isk K L k1 60 nk) (hnk : nk ≤ 1000) : Met l yJ7_fill_53178 (wsM yJ7_fill_53178 cJ7_fill_53178 4 none) ({ frames := 0, cells := 0, slots := 0, locals := 0 }) (va_Pc [.ref k1, .int k2] (PG D cy [] L M sz)) (va_Qv (fun (M9 : Hp) => WOK cy K L M9 ∧ fr K L [60] M M9 ∧ (True)) (fun M9 t => PQ D [] L M9 (va_A ([] ++ va_pl L M) sz) t) (va_A ([] ++ va_pl L M) sz)) 0 0 (va_A ([] ++ va_pl L M) sz) := by
  refine Met.ofW (cc := cJ7_fill_53178) (maxL := 4) (ret := none) (by decide) rfl ?_
  intro p e s m args below meth c s₁ B hml hv
  obtain ⟨rfl, hsz, hP, hK, hD0, hN⟩ := hv
  have hx := B.exec
  have hb := B.bytes
  have hr := B.returns
  have hts := atoms_spec (ws := (wsM yJ7_fill_53178 cJ7_fill_53178 4 none)) B.pre
  have hg : ∀ w ∈ lw_good, w.before _ s = true := fun w h => hts w (List.mem_cons_of_mem _ h)
  have hown : s.vm.findClass RJ7 = some m.cls := findClass_of_methodNamed B.named
  have hlocks := B.notSynchronized
  subst hsz
  have hD := hD0.self (sz := s.heap.size)
  generalize hAe : va_A ([] ++ va_pl L M) s.heap.size = A at hD ⊢
  have hA : ∀ q : Nat, s.heap.size ≤ q → A q := fun q h => by rw [← hAe]; exact Or.inr h
  have hS : va_S A s.heap s.heap [] := va_S.rf
  have hl := lv_entry ([.ref k1, .int k2]) (n := 4) (Nat.le_of_ble_eq_true rfl)
  rw [lg_entry_eq]
  generalize (lg_sl ([.ref k1, .int k2]) ++ List.replicate (4 - (lg_sl ([.ref k1, .int k2])).length) Slot.unset).toArray = ls at hl ⊢
  refine W.nameQ (fun Q hQ => ?_)
  refine W.nameR (fun R hR => ?_)
  have hRf : 0 ≤ R.frames := by rw [hR]; exact Nat.le_of_ble_eq_true rfl
  have hRl : 0 ≤ R.locals := by rw [hR]; exact Nat.le_of_ble_eq_true rfl
  have hRc : 0 ≤ R.cells := by rw [hR]; exact Nat.le_of_ble_eq_true rfl
  have hRs : 0 ≤ R.slots := by rw [hR]; exact Nat.le_of_ble_eq_true rfl
  have hF : fr K L [60] M M := fr.rf
  have hl : lv_has ls 4 [(0, .ref k1), (1, .int k2)] := hl
  refine lv_iconst (v := 0) hx hb dJ7_fill_53178_0 (by decide) ?_
  refine lv_istore_n (lv' := [(2, .int 0), (0, .ref k1), (1, .int k2)]) hx hb dJ7_fill_53178_1 rfl hl (by decide) rfl (fun ls hl => ?_)
  refine lv_aload_n hx hb dJ7_fill_53178_2 rfl (lv_at hl 1 rfl) ?_
  obtain ⟨f1, hM1⟩ := hW.open_60 ik1
  refine pg_alen (v := (nI nk)) hx hb hK hP ik1.1 0 hM1 rfl (by rfl) dJ7_fill_53178_3 ?_
  refine lv_istore_n (lv' := [(3, .int (nI nk)), (2, .int 0), (0, .ref k1), (1, .int k2)]) hx hb dJ7_fill_53178_4 rfl hl (by decide) rfl (fun ls hl => ?_)
  have key_2 : ∀ (fu_4 : Nat) (v2w5 : Nat) (M_7 : Hp) (H_8 : Heap) (locs : List Loc) (ls : Array Slot), nk - v2w5 < fu_4 → v2w5 ≤ nk → WOK cy K L M_7 → fr K L [60] M M_7 → va_P D vwCl ([] ++ va_pl L M_7) H_8 → va_D A ([] ++ va_pl L M_7) → va_S A s.heap H_8 locs → lv_has ls 4 [(3, .int (nI nk)), (2, .int (nI v2w5)), (0, .ref k1), (1, .int k2)] → W p l e R s m ([.ref k1, .int k2] : List Value).toArray below meth c H_8 locs 0 0 Q (F0 m 5 ls []) := by
    intro fu_4
    induction fu_4 with
    | zero => intro v2w5 M_7 H_8 locs ls h; exact absurd h (Nat.not_lt_zero _)
    | succ fu_4 ih_3 =>
      intro v2w5 M_7 H_8 locs ls hfu hx_6 hW hF hP hD hS hl
      refine lv_iload_n hx hb dJ7_fill_53178_5 rfl (lv_at hl 1 rfl) ?_
      refine lv_iload_n hx hb dJ7_fill_53178_6 rfl (lv_at hl 0 rfl) ?_
      refine lv_icmp_ge (tgt := 20) hx hb dJ7_fill_53178_7 (by decide) (fun c_9 => ?_) (fun c_9 => ?_)
      · have hz := rfl (a := 0)
        have n_10 : nk ≤ v2w5 := (iLE (a := nk) (b := v2w5) (by omega) (by omega)).mp c_9
        rw [hQ]
        exact W.vret hx hb hr (fun t ht hW9 => ⟨⟨M_7, rfl, ⟨hW, hF, trivial⟩, ⟨by rw [ht]; exact hP, hD⟩⟩, hS.F ht⟩) hS.2.2 dJ7_fill_53178_20
      · have hz := rfl (a := 0)
        have n_11 : ¬ (nk ≤ v2w5) := fun q => c_9 ((iLE (a := nk) (b := v2w5) (by omega) (by omega)).mpr q)
        refine lv_aload_n hx hb dJ7_fill_53178_10 rfl (lv_at hl 2 rfl) ?_
        refine lv_iload_n hx hb dJ7_fill_53178_11 rfl (lv_at hl 1 rfl) ?_
        refine lv_iload_n hx hb dJ7_fill_53178_12 rfl (lv_at hl 3 rfl) ?_
        obtain ⟨f12, hM12⟩ := hW.open_60 ik1
        refine pg_iast hx hb hK hP hD hS ik1.1 0 hM12 rfl (inbN v2w5 nk (by omega) (by omega)) dJ7_fill_53178_13 (fun H_13 locs hP hD hS => ?_)
        obtain ⟨M_14, eM_14⟩ : ∃ M1 : Hp, M1 = va_up M_7 k1 (.inl (cy 14, nk, .inl (upd f12 ((nI v2w5) : Int32).toNatClampNeg k2))) := ⟨_, rfl⟩
        have hP : va_P D vwCl ([] ++ va_pl L M_14) H_13 := by rw [eM_14]; exact hP
        have hD : va_D A ([] ++ va_pl L M_14) := by rw [eM_14]; exact hD
        have hW : WOK cy K L M_14 := by rw [eM_14]; exact hW.up_60 ik1 ⟨_, rfl⟩
        have hF : fr K L [60] M M_14 := by rw [eM_14]; exact hF.up ik1 (by decide)
        have hM_15 : M_14 k1 = .inl (cy 14, nk, .inl (upd f12 ((nI v2w5) : Int32).toNatClampNeg k2)) := by rw [eM_14]; exact va_up_self _ _ _
        obtain ⟨f_16, ef_16⟩ : ∃ f : Nat → Int32, f = upd f12 ((nI v2w5) : Int32).toNatClampNeg k2 := ⟨_, rfl⟩
        rw [← ef_16] at hM_15
        clear ef_16
        refine lv_iinc (v := (nI (v2w5 + 1))) (lv' := [(2, .int (nI (v2w5 + 1))), (3, .int (nI nk)), (0, .ref k1), (1, .int k2)]) hx hb dJ7_fill_53178_14 hl (k := 1) rfl (nI_1 v2w5) (by decide) rfl (fun ls hl => ?_)
        refine lv_goto (tgt := 5) hx hb dJ7_fill_53178_17 (by decide) ?_
        exact ih_3 (v2w5 + 1) M_14 H_13 _ _ (by omega) (by omega) hW hF hP hD hS (lv_sub hl [1, 0, 2, 3] rfl)
  exact key_2 (nk - 0 + 1) 0 M s.heap _ _ (by omega) (by omega) hW hF hP hD hS (lv_sub hl [0, 1, 2, 3] rfl)
set_option maxHeartbeats 4000000 in
set_option maxRecDepth 100000 in
theorem s_X10_clear (l : Launch) (D : va_G) (cy : Nat → ClassId) (K : Kp) (L : List Nat) (M : Hp) (sz : Nat) (oa : Nat) (hW : WOK cy K L M) (ia : isk K L oa 10 0) : Met l yX10_clear (wsM yX10_clear cX10_clear 1 none) ({ frames := 0, cells := 0, slots := 0, locals := 0 }) (va_Pc [.ref oa] (PG D cy [] L M sz)) (va_Qv (fun (M9 : Hp) => WOK cy K L M9 ∧ fr K L [10] M M9 ∧ fT 10 K L [1, 2] M M9 ∧ (True)) (fun M9 t => PQ D [] L M9 (va_A ([] ++ va_pl L M) sz) t) (va_A ([] ++ va_pl L M) sz)) 0 0 (va_A ([] ++ va_pl L M) sz) := by
  refine Met.ofW (cc := cX10_clear) (maxL := 1) (ret := none) (by decide) rfl ?_
  intro p e s m args below meth c s₁ B hml hv
  obtain ⟨rfl, hsz, hP, hK, hD0, hN⟩ := hv
  have hx := B.exec
  have hb := B.bytes
  have hr := B.returns
  have hts := atoms_spec (ws := (wsM yX10_clear cX10_clear 1 none)) B.pre
  have hg : ∀ w ∈ lw_good, w.before _ s = true := fun w h => hts w (List.mem_cons_of_mem _ h)
  have hown : s.vm.findClass RX10 = some m.cls := findClass_of_methodNamed B.named
  have hlocks := B.notSynchronized
  subst hsz
  have hD := hD0.self (sz := s.heap.size)
  generalize hAe : va_A ([] ++ va_pl L M) s.heap.size = A at hD ⊢
  have hA : ∀ q : Nat, s.heap.size ≤ q → A q := fun q h => by rw [← hAe]; exact Or.inr h
  have hS : va_S A s.heap s.heap [] := va_S.rf
  have hl := lv_entry ([.ref oa]) (n := 1) (Nat.le_of_ble_eq_true rfl)
  rw [lg_entry_eq]
  generalize (lg_sl ([.ref oa]) ++ List.replicate (1 - (lg_sl ([.ref oa])).length) Slot.unset).toArray = ls at hl ⊢
  refine W.nameQ (fun Q hQ => ?_)
  refine W.nameR (fun R hR => ?_)
  have hRf : 0 ≤ R.frames := by rw [hR]; exact Nat.le_of_ble_eq_true rfl
  have hRl : 0 ≤ R.locals := by rw [hR]; exact Nat.le_of_ble_eq_true rfl
  have hRc : 0 ≤ R.cells := by rw [hR]; exact Nat.le_of_ble_eq_true rfl
  have hRs : 0 ≤ R.slots := by rw [hR]; exact Nat.le_of_ble_eq_true rfl
  have hF : fr K L [10] M M := fr.rf
  have hT10 : fT 10 K L [1, 2] M M := fT.rf
  have hl : lv_has ls 1 [(0, .ref oa)] := hl
  refine lv_aload_n hx hb dX10_clear_0 rfl (lv_at hl 0 rfl) ?_
  refine lv_iconst (v := 0) hx hb dX10_clear_1 (by decide) ?_
  obtain ⟨v2_0, v2_1, v2_2, hM2, h2_0⟩ := hW.open_10 ia
  refine pg_put (D := D) (ci := 10) (v := .int 0) (ty := .int) (C := RX10) (T := TX10) (N := 3) hx hb hg inG10 tyX10 tyX10_ok nmX10 hown hK hP hD hS ia.1 hM2 rfl 1 (by decide) (hg _ wd_104) (fun _ h9 => h9) rfl (by decide +kernel) rfl rfl (Nat.le_of_ble_eq_true rfl) dX10_clear_2 (fun H_1 locs hP hD hS => ?_)
  obtain ⟨M_3, eM_3⟩ : ∃ M1 : Hp, M1 = va_up M oa (.inr (10, [.ref v2_0, .int 0, .int v2_2])) := ⟨_, rfl⟩
  have hP : va_P D vwCl ([] ++ va_pl L M_3) H_1 := by rw [eM_3]; exact hP
  have hD : va_D A ([] ++ va_pl L M_3) := by rw [eM_3]; exact hD
  have hW : WOK cy K L M_3 := by rw [eM_3]; exact hW.up_10 ia ⟨v2_0, 0, v2_2, rfl, h2_0⟩
  have hF : fr K L [10] M M_3 := by rw [eM_3]; exact hF.up ia (by decide)
  have hT10 : fT 10 K L [1, 2] M M_3 := by rw [eM_3]; exact hT10.up (i := 1) hM2 rfl (by decide)
  have hM_4 : M_3 oa = .inr (10, [.ref v2_0, .int 0, .int v2_2]) := by rw [eM_3]; exact va_up_self _ _ _
  refine lv_aload_n hx hb dX10_clear_5 rfl (lv_at hl 0 rfl) ?_
  refine lv_iconst (v := 0) hx hb dX10_clear_6 (by decide) ?_
  refine pg_put (D := D) (ci := 10) (v := .int 0) (ty := .int) (C := RX10) (T := TX10) (N := 3) hx hb hg inG10 tyX10 tyX10_ok nmX10 hown hK hP hD hS ia.1 hM_4 rfl 2 (by decide) (hg _ wd_105) (fun _ h9 => h9) rfl (by decide +kernel) rfl rfl (Nat.le_of_ble_eq_true rfl) dX10_clear_7 (fun H_5 locs hP hD hS => ?_)
  obtain ⟨M_6, eM_6⟩ : ∃ M1 : Hp, M1 = va_up M_3 oa (.inr (10, [.ref v2_0, .int 0, .int 0])) := ⟨_, rfl⟩
  have hP : va_P D vwCl ([] ++ va_pl L M_6) H_5 := by rw [eM_6]; exact hP
  have hD : va_D A ([] ++ va_pl L M_6) := by rw [eM_6]; exact hD
  have hW : WOK cy K L M_6 := by rw [eM_6]; exact hW.up_10 ia ⟨v2_0, 0, 0, rfl, h2_0⟩
  have hF : fr K L [10] M M_6 := by rw [eM_6]; exact hF.up ia (by decide)
  have hT10 : fT 10 K L [1, 2] M M_6 := by rw [eM_6]; exact hT10.up (i := 2) hM_4 rfl (by decide)
  have hM_7 : M_6 oa = .inr (10, [.ref v2_0, .int 0, .int 0]) := by rw [eM_6]; exact va_up_self _ _ _
  rw [hQ]
  exact W.vret hx hb hr (fun t ht hW9 => ⟨⟨M_6, rfl, ⟨hW, hF, hT10, trivial⟩, ⟨by rw [ht]; exact hP, hD⟩⟩, hS.F ht⟩) hS.2.2 dX10_clear_10
set_option maxHeartbeats 4000000 in
set_option maxRecDepth 100000 in
theorem s_X10_noteEntry (l : Launch) (D : va_G) (cy : Nat → ClassId) (K : Kp) (L : List Nat) (M : Hp) (sz : Nat) (oa : Nat) (k1 : Int32) (hW : WOK cy K L M) (ia : isk K L oa 10 0) : Met l yX10_noteEntry (wsM yX10_noteEntry cX10_noteEntry 2 none) ({ frames := 1, cells := 0, slots := 0, locals := 22 }) (va_Pc [.ref oa, .int k1] (PG D cy [] L M sz)) (va_Qv (fun (M9 : Hp) => WOK cy K L M9 ∧ fr K L [10, 55] M M9 ∧ fT 10 K L [1, 2] M M9 ∧ (True)) (fun M9 t => PQ D [] L M9 (va_A ([] ++ va_pl L M) sz) t) (va_A ([] ++ va_pl L M) sz)) 0 0 (va_A ([] ++ va_pl L M) sz) := by
  refine Met.ofW (cc := cX10_noteEntry) (maxL := 2) (ret := none) (by decide) rfl ?_
  intro p e s m args below meth c s₁ B hml hv
  obtain ⟨rfl, hsz, hP, hK, hD0, hN⟩ := hv
  have hx := B.exec
  have hb := B.bytes
  have hr := B.returns
  have hts := atoms_spec (ws := (wsM yX10_noteEntry cX10_noteEntry 2 none)) B.pre
  have hg : ∀ w ∈ lw_good, w.before _ s = true := fun w h => hts w (List.mem_cons_of_mem _ h)
  have hown : s.vm.findClass RX10 = some m.cls := findClass_of_methodNamed B.named
  have hlocks := B.notSynchronized
  subst hsz
  have hD := hD0.self (sz := s.heap.size)
  generalize hAe : va_A ([] ++ va_pl L M) s.heap.size = A at hD ⊢
  have hA : ∀ q : Nat, s.heap.size ≤ q → A q := fun q h => by rw [← hAe]; exact Or.inr h
  have hS : va_S A s.heap s.heap [] := va_S.rf
  have hl := lv_entry ([.ref oa, .int k1]) (n := 2) (Nat.le_of_ble_eq_true rfl)
  rw [lg_entry_eq]
  generalize (lg_sl ([.ref oa, .int k1]) ++ List.replicate (2 - (lg_sl ([.ref oa, .int k1])).length) Slot.unset).toArray = ls at hl ⊢
  refine W.nameQ (fun Q hQ => ?_)
  refine W.nameR (fun R hR => ?_)
  have hRf : 1 ≤ R.frames := by rw [hR]; exact Nat.le_of_ble_eq_true rfl
  have hRl : 22 ≤ R.locals := by rw [hR]; exact Nat.le_of_ble_eq_true rfl
  have hRc : 0 ≤ R.cells := by rw [hR]; exact Nat.le_of_ble_eq_true rfl
  have hRs : 0 ≤ R.slots := by rw [hR]; exact Nat.le_of_ble_eq_true rfl
  have hF : fr K L [10, 55] M M := fr.rf
  have hT10 : fT 10 K L [1, 2] M M := fT.rf
  have hl : lv_has ls 2 [(0, .ref oa), (1, .int k1)] := hl
  refine lv_aload_n hx hb dX10_noteEntry_0 rfl (lv_at hl 0 rfl) ?_
  obtain ⟨v1_0, v1_1, v1_2, hM1, h1_0⟩ := hW.open_10 ia
  refine pg_get (D := D) (ci := 10) (v := .ref v1_0) (C := RX10) (T := TX10) (N := 3) hx hb hg inG10 hown hK hP ia.1 hM1 rfl 0 (by decide) (hg _ wd_106) (fun _ h9 => h9) rfl dX10_noteEntry_1 ?_
  refine lv_aload_n hx hb dX10_noteEntry_4 rfl (lv_at hl 0 rfl) ?_
  refine pg_get (D := D) (ci := 10) (v := .int v1_1) (C := RX10) (T := TX10) (N := 3) hx hb hg inG10 hown hK hP ia.1 hM1 rfl 1 (by decide) (hg _ wd_104) (fun _ h9 => h9) rfl dX10_noteEntry_5 ?_
  refine lv_bipush (v := 60) hx hb dX10_noteEntry_8 (by decide) ?_
  have hPc : va_P D vwCl ([] ++ va_pl L M) s.heap := hP
  have hDc : va_D A ([] ++ va_pl L M) := hD
  have hFc : ∀ q, va_A ([] ++ va_pl L M) s.heap.size q → A q := pg_free hDc hS hA
  refine va_calli (va_runS (As := [.int v1_1, .int 60]) (rest := [.ref v1_0]) ⟨hx, hb, hml, hown, hg⟩ (s_J9_floorMod_7cf53 l D cy K L M s.heap.size v1_1  hW ) (va_cwS 2 hg (gS wd_107 wd_108 wd_12 wd_109) rfl rfl rfl (by decide +kernel) ⟨(Nat.le_trans (Nat.le_of_ble_eq_true rfl) hRf), (Nat.le_trans (Nat.le_of_ble_eq_true rfl) hRl)⟩) ⟨PG.blind, fun U hU hW => ⟨rfl, PG.at hPc hK hDc hN hU hW⟩⟩ rfl rfl hl.1 rfl (lv_room (Nat.le_of_ble_eq_true rfl)) dX10_noteEntry_10 ⟨(Nat.le_trans (Nat.le_of_ble_eq_true rfl) hRc), (Nat.le_trans (Nat.le_of_ble_eq_true rfl) hRs)⟩) hS (fun q _ h => hFc q h) hFc (fun r_3 M_4 t H_2 locs ht hvm hw hB hz1 hk1 hS => ?_)
  have hp_5 := hw
  obtain ⟨hP1, hD1⟩ := hB
  rw [ht] at hP1
  have hP : va_P D vwCl ([] ++ va_pl L M) H_2 := hP1
  have hD : va_D A ([] ++ va_pl L M) := hD1.mono hFc
  obtain ⟨j_6, rfl, c_7⟩ := hp_5
  refine lv_iload_n hx hb dX10_noteEntry_13 rfl (lv_at hl 1 rfl) ?_
  obtain ⟨f8, hM8⟩ := hW.open_55 h1_0
  refine pg_iast hx hb hK hP hD hS h1_0.1 0 hM8 rfl (inbN j_6 60 (by omega) (by omega)) dX10_noteEntry_14 (fun H_9 locs hP hD hS => ?_)
  obtain ⟨M_10, eM_10⟩ : ∃ M1 : Hp, M1 = va_up M v1_0 (.inl (cy 14, 60, .inl (upd f8 ((nI j_6) : Int32).toNatClampNeg k1))) := ⟨_, rfl⟩
  have hP : va_P D vwCl ([] ++ va_pl L M_10) H_9 := by rw [eM_10]; exact hP
  have hD : va_D A ([] ++ va_pl L M_10) := by rw [eM_10]; exact hD
  have hW : WOK cy K L M_10 := by rw [eM_10]; exact hW.up_55 h1_0 ⟨_, rfl⟩
  have hF : fr K L [10, 55] M M_10 := by rw [eM_10]; exact hF.up h1_0 (by decide)
  have hT10 : fT 10 K L [1, 2] M M_10 := by rw [eM_10]; exact hT10.ne h1_0 (by decide)
  have hM_11 : M_10 v1_0 = .inl (cy 14, 60, .inl (upd f8 ((nI j_6) : Int32).toNatClampNeg k1)) := by rw [eM_10]; exact va_up_self _ _ _
  have hM_12 : M_10 oa = .inr (10, [.ref v1_0, .int v1_1, .int v1_2]) := by rw [eM_10, va_up_ne _ _ (ia.neT h1_0 (by decide))]; exact hM1
  obtain ⟨f_13, ef_13⟩ : ∃ f : Nat → Int32, f = upd f8 ((nI j_6) : Int32).toNatClampNeg k1 := ⟨_, rfl⟩
  rw [← ef_13] at hM_11
  clear ef_13
  refine lv_aload_n hx hb dX10_noteEntry_15 rfl (lv_at hl 0 rfl) ?_
  refine lv_dup hx hb dX10_noteEntry_16 rfl ?_
  refine pg_get (D := D) (ci := 10) (v := .int v1_1) (C := RX10) (T := TX10) (N := 3) hx hb hg inG10 hown hK hP ia.1 hM_12 rfl 1 (by decide) (hg _ wd_104) (fun _ h9 => h9) rfl dX10_noteEntry_17 ?_
  refine lv_iconst (v := 1) hx hb dX10_noteEntry_20 (by decide) ?_
  refine lv_iadd hx hb dX10_noteEntry_21 ?_
  refine lv_topi (fun f_14 ef_14 => ?_)
  refine pg_put (D := D) (ci := 10) (v := .int f_14) (ty := .int) (C := RX10) (T := TX10) (N := 3) hx hb hg inG10 tyX10 tyX10_ok nmX10 hown hK hP hD hS ia.1 hM_12 rfl 1 (by decide) (hg _ wd_104) (fun _ h9 => h9) rfl (by decide +kernel) rfl rfl (Nat.le_of_ble_eq_true rfl) dX10_noteEntry_22 (fun H_15 locs hP hD hS => ?_)
  obtain ⟨M_16, eM_16⟩ : ∃ M1 : Hp, M1 = va_up M_10 oa (.inr (10, [.ref v1_0, .int f_14, .int v1_2])) := ⟨_, rfl⟩
  have hP : va_P D vwCl ([] ++ va_pl L M_16) H_15 := by rw [eM_16]; exact hP
  have hD : va_D A ([] ++ va_pl L M_16) := by rw [eM_16]; exact hD
  have hW : WOK cy K L M_16 := by rw [eM_16]; exact hW.up_10 ia ⟨v1_0, f_14, v1_2, rfl, h1_0⟩
  have hF : fr K L [10, 55] M M_16 := by rw [eM_16]; exact hF.up ia (by decide)
  have hT10 : fT 10 K L [1, 2] M M_16 := by rw [eM_16]; exact hT10.up (i := 1) hM_12 rfl (by decide)
  have hM_17 : M_16 oa = .inr (10, [.ref v1_0, .int f_14, .int v1_2]) := by rw [eM_16]; exact va_up_self _ _ _
  have hM_18 : M_16 v1_0 = .inl (cy 14, 60, .inl (f_13)) := by rw [eM_16, va_up_ne _ _ (h1_0.neT ia (by decide))]; exact hM_11
  refine lv_aload_n hx hb dX10_noteEntry_25 rfl (lv_at hl 0 rfl) ?_
  refine lv_bipush (v := 60) hx hb dX10_noteEntry_26 (by decide) ?_
  refine lv_aload_n hx hb dX10_noteEntry_28 rfl (lv_at hl 0 rfl) ?_
  refine pg_get (D := D) (ci := 10) (v := .int v1_2) (C := RX10) (T := TX10) (N := 3) hx hb hg inG10 hown hK hP ia.1 hM_17 rfl 2 (by decide) (hg _ wd_105) (fun _ h9 => h9) rfl dX10_noteEntry_29 ?_
  refine lv_iconst (v := 1) hx hb dX10_noteEntry_32 (by decide) ?_
  refine lv_iadd hx hb dX10_noteEntry_33 ?_
  refine lv_topi (fun f_19 ef_19 => ?_)
  refine va_mmin hx hb (by rw [hml]; exact hl.1.symm) hown (hg _ wd_110) (hg _ wd_90) (hg _ wd_12) (hg _ wd_91) (Nat.le_trans (Nat.le_of_ble_eq_true rfl) hRf) (Nat.le_trans (Nat.le_of_ble_eq_true rfl) hRl) (Nat.le_trans (Nat.le_of_ble_eq_true rfl) hRc) (Nat.le_trans (Nat.le_of_ble_eq_true rfl) hRs) dX10_noteEntry_34 ?_
  refine lv_topi (fun f_20 ef_20 => ?_)
  have hm_21 : f_20 ≤ 60 := minL ef_20
  refine pg_put (D := D) (ci := 10) (v := .int f_20) (ty := .int) (C := RX10) (T := TX10) (N := 3) hx hb hg inG10 tyX10 tyX10_ok nmX10 hown hK hP hD hS ia.1 hM_17 rfl 2 (by decide) (hg _ wd_105) (fun _ h9 => h9) rfl (by decide +kernel) rfl rfl (Nat.le_of_ble_eq_true rfl) dX10_noteEntry_37 (fun H_22 locs hP hD hS => ?_)
  obtain ⟨M_23, eM_23⟩ : ∃ M1 : Hp, M1 = va_up M_16 oa (.inr (10, [.ref v1_0, .int f_14, .int f_20])) := ⟨_, rfl⟩
  have hP : va_P D vwCl ([] ++ va_pl L M_23) H_22 := by rw [eM_23]; exact hP
  have hD : va_D A ([] ++ va_pl L M_23) := by rw [eM_23]; exact hD
  have hW : WOK cy K L M_23 := by rw [eM_23]; exact hW.up_10 ia ⟨v1_0, f_14, f_20, rfl, h1_0⟩
  have hF : fr K L [10, 55] M M_23 := by rw [eM_23]; exact hF.up ia (by decide)
  have hT10 : fT 10 K L [1, 2] M M_23 := by rw [eM_23]; exact hT10.up (i := 2) hM_17 rfl (by decide)
  have hM_24 : M_23 oa = .inr (10, [.ref v1_0, .int f_14, .int f_20]) := by rw [eM_23]; exact va_up_self _ _ _
  have hM_25 : M_23 v1_0 = .inl (cy 14, 60, .inl (f_13)) := by rw [eM_23, va_up_ne _ _ (h1_0.neT ia (by decide))]; exact hM_18
  rw [hQ]
  exact W.vret hx hb hr (fun t ht hW9 => ⟨⟨M_23, rfl, ⟨hW, hF, hT10, trivial⟩, ⟨by rw [ht]; exact hP, hD⟩⟩, hS.F ht⟩) hS.2.2 dX10_noteEntry_40
set_option maxHeartbeats 4000000 in
set_option maxRecDepth 100000 in
theorem s_X10_noteMove (l : Launch) (D : va_G) (cy : Nat → ClassId) (K : Kp) (L : List Nat) (M : Hp) (sz : Nat) (oa : Nat) (hW : WOK cy K L M) (ia : isk K L oa 10 0) : Met l yX10_noteMove (wsM yX10_noteMove cX10_noteMove 1 none) ({ frames := 2, cells := 0, slots := 0, locals := 43 }) (va_Pc [.ref oa] (PG D cy [] L M sz)) (va_Qv (fun (M9 : Hp) => WOK cy K L M9 ∧ fr K L [10, 55] M M9 ∧ fT 10 K L [1, 2] M M9 ∧ (True)) (fun M9 t => PQ D [] L M9 (va_A ([] ++ va_pl L M) sz) t) (va_A ([] ++ va_pl L M) sz)) 0 0 (va_A ([] ++ va_pl L M) sz) := by
  refine Met.ofW (cc := cX10_noteMove) (maxL := 1) (ret := none) (by decide) rfl ?_
  intro p e s m args below meth c s₁ B hml hv
  obtain ⟨rfl, hsz, hP, hK, hD0, hN⟩ := hv
  have hx := B.exec
  have hb := B.bytes
  have hr := B.returns
  have hts := atoms_spec (ws := (wsM yX10_noteMove cX10_noteMove 1 none)) B.pre
  have hg : ∀ w ∈ lw_good, w.before _ s = true := fun w h => hts w (List.mem_cons_of_mem _ h)
  have hown : s.vm.findClass RX10 = some m.cls := findClass_of_methodNamed B.named
  have hlocks := B.notSynchronized
  subst hsz
  have hD := hD0.self (sz := s.heap.size)
  generalize hAe : va_A ([] ++ va_pl L M) s.heap.size = A at hD ⊢
  have hA : ∀ q : Nat, s.heap.size ≤ q → A q := fun q h => by rw [← hAe]; exact Or.inr h
  have hS : va_S A s.heap s.heap [] := va_S.rf
  have hl := lv_entry ([.ref oa]) (n := 1) (Nat.le_of_ble_eq_true rfl)
  rw [lg_entry_eq]
  generalize (lg_sl ([.ref oa]) ++ List.replicate (1 - (lg_sl ([.ref oa])).length) Slot.unset).toArray = ls at hl ⊢
  refine W.nameQ (fun Q hQ => ?_)
  refine W.nameR (fun R hR => ?_)
  have hRf : 2 ≤ R.frames := by rw [hR]; exact Nat.le_of_ble_eq_true rfl
  have hRl : 43 ≤ R.locals := by rw [hR]; exact Nat.le_of_ble_eq_true rfl
  have hRc : 0 ≤ R.cells := by rw [hR]; exact Nat.le_of_ble_eq_true rfl
  have hRs : 0 ≤ R.slots := by rw [hR]; exact Nat.le_of_ble_eq_true rfl
  have hF : fr K L [10, 55] M M := fr.rf
  have hT10 : fT 10 K L [1, 2] M M := fT.rf
  have hl : lv_has ls 1 [(0, .ref oa)] := hl
  refine lv_aload_n hx hb dX10_noteMove_0 rfl (lv_at hl 0 rfl) ?_
  refine lv_iconst (v := (-1)) hx hb dX10_noteMove_1 (by decide) ?_
  obtain ⟨v1_0, v1_1, v1_2, hM1, h1_0⟩ := hW.open_10 ia
  have hPc : va_P D vwCl ([] ++ va_pl L M) s.heap := hP
  have hDc : va_D A ([] ++ va_pl L M) := hD
  have hFc : ∀ q, va_A ([] ++ va_pl L M) s.heap.size q → A q := pg_free hDc hS hA
  refine va_callv (va_runV (As := [.int (-1)]) (rest := []) ⟨hx, hb, hml, hown, hg⟩ (s_X10_noteEntry l D cy K L M s.heap.size oa (-1)  hW ia) (cwV 1 hg (gV wd_111 wd_112 wd_113 wd_114 wd_115) rfl rfl rfl (by decide +kernel) ⟨(Nat.le_trans (Nat.le_of_ble_eq_true rfl) hRf), (Nat.le_trans (Nat.le_of_ble_eq_true rfl) hRl)⟩) ⟨PG.blind, pg_recv hK hP ia.1 hM1 rfl, fun U hU hW => ⟨rfl, PG.at hPc hK hDc hN hU hW⟩⟩ rfl rfl hl.1 rfl (lv_room (Nat.le_of_ble_eq_true rfl)) dX10_noteMove_2 ⟨(Nat.le_trans (Nat.le_of_ble_eq_true rfl) hRc), (Nat.le_trans (Nat.le_of_ble_eq_true rfl) hRs)⟩) hS (fun q _ h => hFc q h) hFc (fun M_4 t H_2 locs ht hvm hw hB hz1 hk1 hS => ?_)
  obtain ⟨hW, hF2, gT10, hp_5⟩ := hw
  obtain ⟨hP1, hD1⟩ := hB
  rw [ht] at hP1
  have hP : va_P D vwCl ([] ++ va_pl L M_4) H_2 := hP1
  have hD : va_D A ([] ++ va_pl L M_4) := hD1.mono hFc
  have hF : fr K L [10, 55] M M_4 := hF.tr hF2 (by decide)
  have hT10 : fT 10 K L [1, 2] M M_4 := hT10.tr gT10 (by decide)
  rw [hQ]
  exact W.vret hx hb hr (fun t ht hW9 => ⟨⟨M_4, rfl, ⟨hW, hF, hT10, trivial⟩, ⟨by rw [ht]; exact hP, hD⟩⟩, hS.F ht⟩) hS.2.2 dX10_noteMove_5
set_option maxHeartbeats 4000000 in
set_option maxRecDepth 100000 in
theorem s_X10_takeLatest (l : Launch) (D : va_G) (cy : Nat → ClassId) (K : Kp) (L : List Nat) (M : Hp) (sz : Nat) (oa : Nat) (hW : WOK cy K L M) (ia : isk K L oa 10 0) : Met l yX10_takeLatest (wsM yX10_takeLatest cX10_takeLatest 1 (some .int)) ({ frames := 1, cells := 0, slots := 0, locals := 22 }) (va_Pc [.ref oa] (PG D cy [] L M sz)) (va_Qi (fun (r : Int32) (M9 : Hp) => WOK cy K L M9 ∧ fr K L [10] M M9 ∧ fT 10 K L [1, 2] M M9 ∧ (True)) (fun M9 t => PQ D [] L M9 (va_A ([] ++ va_pl L M) sz) t) (va_A ([] ++ va_pl L M) sz)) 0 0 (va_A ([] ++ va_pl L M) sz) := by
  refine Met.ofW (cc := cX10_takeLatest) (maxL := 1) (ret := (some .int)) (by decide) rfl ?_
  intro p e s m args below meth c s₁ B hml hv
  obtain ⟨rfl, hsz, hP, hK, hD0, hN⟩ := hv
  have hx := B.exec
  have hb := B.bytes
  have hr := B.returns
  have hts := atoms_spec (ws := (wsM yX10_takeLatest cX10_takeLatest 1 (some .int))) B.pre
  have hg : ∀ w ∈ lw_good, w.before _ s = true := fun w h => hts w (List.mem_cons_of_mem _ h)
  have hown : s.vm.findClass RX10 = some m.cls := findClass_of_methodNamed B.named
  have hlocks := B.notSynchronized
  subst hsz
  have hD := hD0.self (sz := s.heap.size)
  generalize hAe : va_A ([] ++ va_pl L M) s.heap.size = A at hD ⊢
  have hA : ∀ q : Nat, s.heap.size ≤ q → A q := fun q h => by rw [← hAe]; exact Or.inr h
  have hS : va_S A s.heap s.heap [] := va_S.rf
  have hl := lv_entry ([.ref oa]) (n := 1) (Nat.le_of_ble_eq_true rfl)
  rw [lg_entry_eq]
  generalize (lg_sl ([.ref oa]) ++ List.replicate (1 - (lg_sl ([.ref oa])).length) Slot.unset).toArray = ls at hl ⊢
  refine W.nameQ (fun Q hQ => ?_)
  refine W.nameR (fun R hR => ?_)
  have hRf : 1 ≤ R.frames := by rw [hR]; exact Nat.le_of_ble_eq_true rfl
  have hRl : 22 ≤ R.locals := by rw [hR]; exact Nat.le_of_ble_eq_true rfl
  have hRc : 0 ≤ R.cells := by rw [hR]; exact Nat.le_of_ble_eq_true rfl
  have hRs : 0 ≤ R.slots := by rw [hR]; exact Nat.le_of_ble_eq_true rfl
  have hF : fr K L [10] M M := fr.rf
  have hT10 : fT 10 K L [1, 2] M M := fT.rf
  have hl : lv_has ls 1 [(0, .ref oa)] := hl
  refine lv_aload_n hx hb dX10_takeLatest_0 rfl (lv_at hl 0 rfl) ?_
  refine lv_dup hx hb dX10_takeLatest_1 rfl ?_
  obtain ⟨v1_0, v1_1, v1_2, hM1, h1_0⟩ := hW.open_10 ia
  refine pg_get (D := D) (ci := 10) (v := .int v1_1) (C := RX10) (T := TX10) (N := 3) hx hb hg inG10 hown hK hP ia.1 hM1 rfl 1 (by decide) (hg _ wd_104) (fun _ h9 => h9) rfl dX10_takeLatest_2 ?_
  refine lv_iconst (v := 1) hx hb dX10_takeLatest_5 (by decide) ?_
  refine lv_isub hx hb dX10_takeLatest_6 ?_
  refine lv_topi (fun f_2 ef_2 => ?_)
  refine pg_put (D := D) (ci := 10) (v := .int f_2) (ty := .int) (C := RX10) (T := TX10) (N := 3) hx hb hg inG10 tyX10 tyX10_ok nmX10 hown hK hP hD hS ia.1 hM1 rfl 1 (by decide) (hg _ wd_104) (fun _ h9 => h9) rfl (by decide +kernel) rfl rfl (Nat.le_of_ble_eq_true rfl) dX10_takeLatest_7 (fun H_3 locs hP hD hS => ?_)
  obtain ⟨M_4, eM_4⟩ : ∃ M1 : Hp, M1 = va_up M oa (.inr (10, [.ref v1_0, .int f_2, .int v1_2])) := ⟨_, rfl⟩
  have hP : va_P D vwCl ([] ++ va_pl L M_4) H_3 := by rw [eM_4]; exact hP
  have hD : va_D A ([] ++ va_pl L M_4) := by rw [eM_4]; exact hD
  have hW : WOK cy K L M_4 := by rw [eM_4]; exact hW.up_10 ia ⟨v1_0, f_2, v1_2, rfl, h1_0⟩
  have hF : fr K L [10] M M_4 := by rw [eM_4]; exact hF.up ia (by decide)
  have hT10 : fT 10 K L [1, 2] M M_4 := by rw [eM_4]; exact hT10.up (i := 1) hM1 rfl (by decide)
  have hM_5 : M_4 oa = .inr (10, [.ref v1_0, .int f_2, .int v1_2]) := by rw [eM_4]; exact va_up_self _ _ _
  refine lv_aload_n hx hb dX10_takeLatest_10 rfl (lv_at hl 0 rfl) ?_
  refine lv_iconst (v := 0) hx hb dX10_takeLatest_11 (by decide) ?_
  refine lv_aload_n hx hb dX10_takeLatest_12 rfl (lv_at hl 0 rfl) ?_
  refine pg_get (D := D) (ci := 10) (v := .int v1_2) (C := RX10) (T := TX10) (N := 3) hx hb hg inG10 hown hK hP ia.1 hM_5 rfl 2 (by decide) (hg _ wd_105) (fun _ h9 => h9) rfl dX10_takeLatest_13 ?_
  refine lv_iconst (v := 1) hx hb dX10_takeLatest_16 (by decide) ?_
  refine lv_isub hx hb dX10_takeLatest_17 ?_
  refine lv_topi (fun f_6 ef_6 => ?_)
  refine va_mmax hx hb (by rw [hml]; exact hl.1.symm) hown (hg _ wd_116) (hg _ wd_100) (hg _ wd_12) (hg _ wd_101) (Nat.le_trans (Nat.le_of_ble_eq_true rfl) hRf) (Nat.le_trans (Nat.le_of_ble_eq_true rfl) hRl) (Nat.le_trans (Nat.le_of_ble_eq_true rfl) hRc) (Nat.le_trans (Nat.le_of_ble_eq_true rfl) hRs) dX10_takeLatest_18 ?_
  refine lv_topi (fun f_7 ef_7 => ?_)
  obtain ⟨j_8, hj_9, rfl⟩ := max0 ef_7
  refine pg_put (D := D) (ci := 10) (v := .int (nI j_8)) (ty := .int) (C := RX10) (T := TX10) (N := 3) hx hb hg inG10 tyX10 tyX10_ok nmX10 hown hK hP hD hS ia.1 hM_5 rfl 2 (by decide) (hg _ wd_105) (fun _ h9 => h9) rfl (by decide +kernel) rfl rfl (Nat.le_of_ble_eq_true rfl) dX10_takeLatest_21 (fun H_10 locs hP hD hS => ?_)
  obtain ⟨M_11, eM_11⟩ : ∃ M1 : Hp, M1 = va_up M_4 oa (.inr (10, [.ref v1_0, .int f_2, .int (nI j_8)])) := ⟨_, rfl⟩
  have hP : va_P D vwCl ([] ++ va_pl L M_11) H_10 := by rw [eM_11]; exact hP
  have hD : va_D A ([] ++ va_pl L M_11) := by rw [eM_11]; exact hD
  have hW : WOK cy K L M_11 := by rw [eM_11]; exact hW.up_10 ia ⟨v1_0, f_2, (nI j_8), rfl, h1_0⟩
  have hF : fr K L [10] M M_11 := by rw [eM_11]; exact hF.up ia (by decide)
  have hT10 : fT 10 K L [1, 2] M M_11 := by rw [eM_11]; exact hT10.up (i := 2) hM_5 rfl (by decide)
  have hM_12 : M_11 oa = .inr (10, [.ref v1_0, .int f_2, .int (nI j_8)]) := by rw [eM_11]; exact va_up_self _ _ _
  refine lv_aload_n hx hb dX10_takeLatest_24 rfl (lv_at hl 0 rfl) ?_
  refine pg_get (D := D) (ci := 10) (v := .ref v1_0) (C := RX10) (T := TX10) (N := 3) hx hb hg inG10 hown hK hP ia.1 hM_12 rfl 0 (by decide) (hg _ wd_106) (fun _ h9 => h9) rfl dX10_takeLatest_25 ?_
  refine lv_aload_n hx hb dX10_takeLatest_28 rfl (lv_at hl 0 rfl) ?_
  refine pg_get (D := D) (ci := 10) (v := .int f_2) (C := RX10) (T := TX10) (N := 3) hx hb hg inG10 hown hK hP ia.1 hM_12 rfl 1 (by decide) (hg _ wd_104) (fun _ h9 => h9) rfl dX10_takeLatest_29 ?_
  refine lv_bipush (v := 60) hx hb dX10_takeLatest_32 (by decide) ?_
  have hPc : va_P D vwCl ([] ++ va_pl L M_11) H_10 := hP
  have hDc : va_D A ([] ++ va_pl L M_11) := hD
  have hFc : ∀ q, va_A ([] ++ va_pl L M_11) H_10.size q → A q := pg_free hDc hS hA
  refine va_calli (va_runS (As := [.int f_2, .int 60]) (rest := [.ref v1_0]) ⟨hx, hb, hml, hown, hg⟩ (s_J9_floorMod_7cf53 l D cy K L M_11 H_10.size f_2  hW ) (va_cwS 2 hg (gS wd_107 wd_108 wd_12 wd_109) rfl rfl rfl (by decide +kernel) ⟨(Nat.le_trans (Nat.le_of_ble_eq_true rfl) hRf), (Nat.le_trans (Nat.le_of_ble_eq_true rfl) hRl)⟩) ⟨PG.blind, fun U hU hW => ⟨rfl, PG.at hPc hK hDc hN hU hW⟩⟩ rfl rfl hl.1 rfl (lv_room (Nat.le_of_ble_eq_true rfl)) dX10_takeLatest_34 ⟨(Nat.le_trans (Nat.le_of_ble_eq_true rfl) hRc), (Nat.le_trans (Nat.le_of_ble_eq_true rfl) hRs)⟩) hS (fun q _ h => hFc q h) hFc (fun r_14 M_15 t H_13 locs ht hvm hw hB hz1 hk1 hS => ?_)
  have hp_16 := hw
  obtain ⟨hP1, hD1⟩ := hB
  rw [ht] at hP1
  have hP : va_P D vwCl ([] ++ va_pl L M_11) H_13 := hP1
  have hD : va_D A ([] ++ va_pl L M_11) := hD1.mono hFc
  obtain ⟨j_17, rfl, c_18⟩ := hp_16
  obtain ⟨f19, hM19⟩ := hW.open_55 h1_0
  refine pg_iald hx hb hK hP h1_0.1 0 hM19 rfl (inbN j_17 60 (by omega) (by omega)) dX10_takeLatest_37 ?_
  refine lv_topi (fun f_20 ef_20 => ?_)
  rw [hQ]
  exact W.iret (v := f_20) hx hb hr (fun t ht hW9 => ⟨⟨f_20, M_11, rfl, ⟨hW, hF, hT10, trivial⟩, ⟨by rw [ht]; exact hP, hD⟩⟩, hS.F ht⟩) hS.2.2 dX10_takeLatest_38
set_option maxHeartbeats 4000000 in
set_option maxRecDepth 100000 in
theorem s_X9_payOut (l : Launch) (D : va_G) (cy : Nat → ClassId) (K : Kp) (L : List Nat) (M : Hp) (sz : Nat) (oa : Nat) (hW : WOK cy K L M) (ia : isk K L oa 9 0) : Met l yX9_payOut (wsM yX9_payOut cX9_payOut 3 none) ({ frames := 1, cells := 0, slots := 0, locals := 16 }) (va_Pc [.ref oa] (PG D cy [] L M sz)) (va_Qv (fun (M9 : Hp) => WOK cy K L M9 ∧ fr K L [9] M M9 ∧ fT 9 K L [6, 9, 10, 13, 14] M M9 ∧ (True)) (fun M9 t => PQ D [] L M9 (va_A ([] ++ va_pl L M) sz) t) (va_A ([] ++ va_pl L M) sz)) 0 0 (va_A ([] ++ va_pl L M) sz) := by
  refine Met.ofW (cc := cX9_payOut) (maxL := 3) (ret := none) (by decide) rfl ?_
  intro p e s m args below meth c s₁ B hml hv
  obtain ⟨rfl, hsz, hP, hK, hD0, hN⟩ := hv
  have hx := B.exec
  have hb := B.bytes
  have hr := B.returns
  have hts := atoms_spec (ws := (wsM yX9_payOut cX9_payOut 3 none)) B.pre
  have hg : ∀ w ∈ lw_good, w.before _ s = true := fun w h => hts w (List.mem_cons_of_mem _ h)
  have hown : s.vm.findClass RX9 = some m.cls := findClass_of_methodNamed B.named
  have hlocks := B.notSynchronized
  subst hsz
  have hD := hD0.self (sz := s.heap.size)
  generalize hAe : va_A ([] ++ va_pl L M) s.heap.size = A at hD ⊢
  have hA : ∀ q : Nat, s.heap.size ≤ q → A q := fun q h => by rw [← hAe]; exact Or.inr h
  have hS : va_S A s.heap s.heap [] := va_S.rf
  have hl := lv_entry ([.ref oa]) (n := 3) (Nat.le_of_ble_eq_true rfl)
  rw [lg_entry_eq]
  generalize (lg_sl ([.ref oa]) ++ List.replicate (3 - (lg_sl ([.ref oa])).length) Slot.unset).toArray = ls at hl ⊢
  refine W.nameQ (fun Q hQ => ?_)
  refine W.nameR (fun R hR => ?_)
  have hRf : 1 ≤ R.frames := by rw [hR]; exact Nat.le_of_ble_eq_true rfl
  have hRl : 16 ≤ R.locals := by rw [hR]; exact Nat.le_of_ble_eq_true rfl
  have hRc : 0 ≤ R.cells := by rw [hR]; exact Nat.le_of_ble_eq_true rfl
  have hRs : 0 ≤ R.slots := by rw [hR]; exact Nat.le_of_ble_eq_true rfl
  have hF : fr K L [9] M M := fr.rf
  have hT9 : fT 9 K L [6, 9, 10, 13, 14] M M := fT.rf
  have hl : lv_has ls 3 [(0, .ref oa)] := hl
  refine lv_aload_n hx hb dX9_payOut_0 rfl (lv_at hl 0 rfl) ?_
  obtain ⟨v1_0, v1_1, v1_2, v1_3, v1_4, v1_5, v1_6, v1_7, v1_8, v1_9, v1_10, v1_11, v1_12, v1_13, v1_14, v1_15, hM1, h1_0, h1_1, h1_4, h1_8⟩ := hW.open_9 ia
  refine pg_get (D := D) (ci := 9) (v := va_rf v1_8) (C := RX9) (T := TX9) (N := 16) hx hb hg inG9 hown hK hP ia.1 hM1 rfl 8 (by decide) (hg _ wd_25) (fun _ h9 => h9) rfl dX9_payOut_1 ?_
  rcases v1_8 with _ | b_2
  · have hz := rfl (a := 0)
    refine lv_ifnullN (tgt := 50) hx hb dX9_payOut_4 (by decide) ?_
    refine lv_aload_n hx hb dX9_payOut_50 rfl (lv_at hl 0 rfl) ?_
    refine pg_get (D := D) (ci := 9) (v := .long v1_9) (C := RX9) (T := TX9) (N := 16) hx hb hg inG9 hown hK hP ia.1 hM1 rfl 9 (by decide) (hg _ wd_16) (fun _ h9 => h9) rfl dX9_payOut_51 ?_
    refine lv_lconst (v := 0) hx hb dX9_payOut_54 (by decide) ?_
    refine W.lcmp hx hb dX9_payOut_55 ?_
    refine lv_if_le (tgt := 77) hx hb dX9_payOut_56 (by decide) (fun c_3 => ?_) (fun c_3 => ?_)
    · have hz := rfl (a := 0)
      have d_4 : v1_9 ≤ 0 := lc_let c_3
      refine lv_aload_n hx hb dX9_payOut_77 rfl (lv_at hl 0 rfl) ?_
      refine lv_dup hx hb dX9_payOut_78 rfl ?_
      refine pg_get (D := D) (ci := 9) (v := .long v1_13) (C := RX9) (T := TX9) (N := 16) hx hb hg inG9 hown hK hP ia.1 hM1 rfl 13 (by decide) (hg _ wd_19) (fun _ h9 => h9) rfl dX9_payOut_79 ?_
      refine lv_aload_n hx hb dX9_payOut_82 rfl (lv_at hl 0 rfl) ?_
      refine pg_get (D := D) (ci := 9) (v := .long v1_10) (C := RX9) (T := TX9) (N := 16) hx hb hg inG9 hown hK hP ia.1 hM1 rfl 10 (by decide) (hg _ wd_17) (fun _ h9 => h9) rfl dX9_payOut_83 ?_
      refine lv_ladd hx hb dX9_payOut_86 ?_
      refine lv_topl (fun f_5 ef_5 => ?_)
      refine pg_put (D := D) (ci := 9) (v := .long f_5) (ty := .long) (C := RX9) (T := TX9) (N := 16) hx hb hg inG9 tyX9 tyX9_ok nmX9 hown hK hP hD hS ia.1 hM1 rfl 13 (by decide) (hg _ wd_19) (fun _ h9 => h9) rfl (by decide +kernel) rfl rfl (Nat.le_of_ble_eq_true rfl) dX9_payOut_87 (fun H_6 locs hP hD hS => ?_)
      obtain ⟨M_7, eM_7⟩ : ∃ M1 : Hp, M1 = va_up M oa (.inr (9, [.int (nI v1_0), .ref v1_1, .int v1_2, .int v1_3, .int v1_4, .int v1_5, .int v1_6, .int v1_7, va_rf none, .long v1_9, .long v1_10, .long v1_11, .long v1_12, .long f_5, .long v1_14, .long v1_15])) := ⟨_, rfl⟩
      have hP : va_P D vwCl ([] ++ va_pl L M_7) H_6 := by rw [eM_7]; exact hP
      have hD : va_D A ([] ++ va_pl L M_7) := by rw [eM_7]; exact hD
      have hW : WOK cy K L M_7 := by rw [eM_7]; exact hW.up_9 ia ⟨v1_0, v1_1, v1_2, v1_3, v1_4, v1_5, v1_6, v1_7, none, v1_9, v1_10, v1_11, v1_12, f_5, v1_14, v1_15, rfl, h1_0, h1_1, h1_4, h1_8⟩
      have hF : fr K L [9] M M_7 := by rw [eM_7]; exact hF.up ia (by decide)
      have hT9 : fT 9 K L [6, 9, 10, 13, 14] M M_7 := by rw [eM_7]; exact hT9.up (i := 13) hM1 rfl (by decide)
      have hM_8 : M_7 oa = .inr (9, [.int (nI v1_0), .ref v1_1, .int v1_2, .int v1_3, .int v1_4, .int v1_5, .int v1_6, .int v1_7, va_rf none, .long v1_9, .long v1_10, .long v1_11, .long v1_12, .long f_5, .long v1_14, .long v1_15]) := by rw [eM_7]; exact va_up_self _ _ _
      refine lv_aload_n hx hb dX9_payOut_90 rfl (lv_at hl 0 rfl) ?_
      refine lv_lconst (v := 0) hx hb dX9_payOut_91 (by decide) ?_
      refine pg_put (D := D) (ci := 9) (v := .long 0) (ty := .long) (C := RX9) (T := TX9) (N := 16) hx hb hg inG9 tyX9 tyX9_ok nmX9 hown hK hP hD hS ia.1 hM_8 rfl 10 (by decide) (hg _ wd_17) (fun _ h9 => h9) rfl (by decide +kernel) rfl rfl (Nat.le_of_ble_eq_true rfl) dX9_payOut_92 (fun H_9 locs hP hD hS => ?_)
      obtain ⟨M_10, eM_10⟩ : ∃ M1 : Hp, M1 = va_up M_7 oa (.inr (9, [.int (nI v1_0), .ref v1_1, .int v1_2, .int v1_3, .int v1_4, .int v1_5, .int v1_6, .int v1_7, va_rf none, .long v1_9, .long 0, .long v1_11, .long v1_12, .long f_5, .long v1_14, .long v1_15])) := ⟨_, rfl⟩
      have hP : va_P D vwCl ([] ++ va_pl L M_10) H_9 := by rw [eM_10]; exact hP
      have hD : va_D A ([] ++ va_pl L M_10) := by rw [eM_10]; exact hD
      have hW : WOK cy K L M_10 := by rw [eM_10]; exact hW.up_9 ia ⟨v1_0, v1_1, v1_2, v1_3, v1_4, v1_5, v1_6, v1_7, none, v1_9, 0, v1_11, v1_12, f_5, v1_14, v1_15, rfl, h1_0, h1_1, h1_4, h1_8⟩
      have hF : fr K L [9] M M_10 := by rw [eM_10]; exact hF.up ia (by decide)
      have hT9 : fT 9 K L [6, 9, 10, 13, 14] M M_10 := by rw [eM_10]; exact hT9.up (i := 10) hM_8 rfl (by decide)
      have hM_11 : M_10 oa = .inr (9, [.int (nI v1_0), .ref v1_1, .int v1_2, .int v1_3, .int v1_4, .int v1_5, .int v1_6, .int v1_7, va_rf none, .long v1_9, .long 0, .long v1_11, .long v1_12, .long f_5, .long v1_14, .long v1_15]) := by rw [eM_10]; exact va_up_self _ _ _
      refine lv_aload_n hx hb dX9_payOut_95 rfl (lv_at hl 0 rfl) ?_
      refine pg_get (D := D) (ci := 9) (v := .int v1_6) (C := RX9) (T := TX9) (N := 16) hx hb hg inG9 hown hK hP ia.1 hM_11 rfl 6 (by decide) (hg _ wd_14) (fun _ h9 => h9) rfl dX9_payOut_96 ?_
      refine lv_if_le (tgt := 147) hx hb dX9_payOut_99 (by decide) (fun c_12 => ?_) (fun c_12 => ?_)
      · have hz := rfl (a := 0)
        rw [hQ]
        exact W.vret hx hb hr (fun t ht hW9 => ⟨⟨M_10, rfl, ⟨hW, hF, hT9, trivial⟩, ⟨by rw [ht]; exact hP, hD⟩⟩, hS.F ht⟩) hS.2.2 dX9_payOut_147
      · have hz := rfl (a := 0)
        refine lv_aload_n hx hb dX9_payOut_102 rfl (lv_at hl 0 rfl) ?_
        refine pg_get (D := D) (ci := 9) (v := .long f_5) (C := RX9) (T := TX9) (N := 16) hx hb hg inG9 hown hK hP ia.1 hM_11 rfl 13 (by decide) (hg _ wd_19) (fun _ h9 => h9) rfl dX9_payOut_103 ?_
        refine lv_aload_n hx hb dX9_payOut_106 rfl (lv_at hl 0 rfl) ?_
        refine pg_get (D := D) (ci := 9) (v := .int v1_6) (C := RX9) (T := TX9) (N := 16) hx hb hg inG9 hown hK hP ia.1 hM_11 rfl 6 (by decide) (hg _ wd_14) (fun _ h9 => h9) rfl dX9_payOut_107 ?_
        refine lv_i2l hx hb dX9_payOut_110 rfl ?_
        refine lv_topl (fun f_13 ef_13 => ?_)
        refine lv_ldiv hx hb dX9_payOut_111 (i2l_nz ef_13 c_12) ?_
        refine lv_topl (fun f_14 ef_14 => ?_)
        refine lv_lstore_n (lv' := [(1, .long f_14), (0, .ref oa)]) hx hb dX9_payOut_112 rfl hl (by decide) rfl (fun ls hl => ?_)
        refine lv_aload_n hx hb dX9_payOut_113 rfl (lv_at hl 1 rfl) ?_
        refine lv_dup hx hb dX9_payOut_114 rfl ?_
        refine pg_get (D := D) (ci := 9) (v := .long f_5) (C := RX9) (T := TX9) (N := 16) hx hb hg inG9 hown hK hP ia.1 hM_11 rfl 13 (by decide) (hg _ wd_19) (fun _ h9 => h9) rfl dX9_payOut_115 ?_
        refine lv_lload_n hx hb dX9_payOut_118 rfl (lv_at hl 0 rfl) ?_
        refine lv_lsub hx hb dX9_payOut_119 ?_
        refine lv_topl (fun f_15 ef_15 => ?_)
        refine pg_put (D := D) (ci := 9) (v := .long f_15) (ty := .long) (C := RX9) (T := TX9) (N := 16) hx hb hg inG9 tyX9 tyX9_ok nmX9 hown hK hP hD hS ia.1 hM_11 rfl 13 (by decide) (hg _ wd_19) (fun _ h9 => h9) rfl (by decide +kernel) rfl rfl (Nat.le_of_ble_eq_true rfl) dX9_payOut_120 (fun H_16 locs hP hD hS => ?_)
        obtain ⟨M_17, eM_17⟩ : ∃ M1 : Hp, M1 = va_up M_10 oa (.inr (9, [.int (nI v1_0), .ref v1_1, .int v1_2, .int v1_3, .int v1_4, .int v1_5, .int v1_6, .int v1_7, va_rf none, .long v1_9, .long 0, .long v1_11, .long v1_12, .long f_15, .long v1_14, .long v1_15])) := ⟨_, rfl⟩
        have hP : va_P D vwCl ([] ++ va_pl L M_17) H_16 := by rw [eM_17]; exact hP
        have hD : va_D A ([] ++ va_pl L M_17) := by rw [eM_17]; exact hD
        have hW : WOK cy K L M_17 := by rw [eM_17]; exact hW.up_9 ia ⟨v1_0, v1_1, v1_2, v1_3, v1_4, v1_5, v1_6, v1_7, none, v1_9, 0, v1_11, v1_12, f_15, v1_14, v1_15, rfl, h1_0, h1_1, h1_4, h1_8⟩
        have hF : fr K L [9] M M_17 := by rw [eM_17]; exact hF.up ia (by decide)
        have hT9 : fT 9 K L [6, 9, 10, 13, 14] M M_17 := by rw [eM_17]; exact hT9.up (i := 13) hM_11 rfl (by decide)
        have hM_18 : M_17 oa = .inr (9, [.int (nI v1_0), .ref v1_1, .int v1_2, .int v1_3, .int v1_4, .int v1_5, .int v1_6, .int v1_7, va_rf none, .long v1_9, .long 0, .long v1_11, .long v1_12, .long f_15, .long v1_14, .long v1_15]) := by rw [eM_17]; exact va_up_self _ _ _
        refine lv_aload_n hx hb dX9_payOut_123 rfl (lv_at hl 1 rfl) ?_
        refine lv_dup hx hb dX9_payOut_124 rfl ?_
        refine pg_get (D := D) (ci := 9) (v := .long v1_14) (C := RX9) (T := TX9) (N := 16) hx hb hg inG9 hown hK hP ia.1 hM_18 rfl 14 (by decide) (hg _ wd_20) (fun _ h9 => h9) rfl dX9_payOut_125 ?_
        refine lv_lload_n hx hb dX9_payOut_128 rfl (lv_at hl 0 rfl) ?_
        refine lv_ladd hx hb dX9_payOut_129 ?_
        refine lv_topl (fun f_19 ef_19 => ?_)
        refine pg_put (D := D) (ci := 9) (v := .long f_19) (ty := .long) (C := RX9) (T := TX9) (N := 16) hx hb hg inG9 tyX9 tyX9_ok nmX9 hown hK hP hD hS ia.1 hM_18 rfl 14 (by decide) (hg _ wd_20) (fun _ h9 => h9) rfl (by decide +kernel) rfl rfl (Nat.le_of_ble_eq_true rfl) dX9_payOut_130 (fun H_20 locs hP hD hS => ?_)
        obtain ⟨M_21, eM_21⟩ : ∃ M1 : Hp, M1 = va_up M_17 oa (.inr (9, [.int (nI v1_0), .ref v1_1, .int v1_2, .int v1_3, .int v1_4, .int v1_5, .int v1_6, .int v1_7, va_rf none, .long v1_9, .long 0, .long v1_11, .long v1_12, .long f_15, .long f_19, .long v1_15])) := ⟨_, rfl⟩
        have hP : va_P D vwCl ([] ++ va_pl L M_21) H_20 := by rw [eM_21]; exact hP
        have hD : va_D A ([] ++ va_pl L M_21) := by rw [eM_21]; exact hD
        have hW : WOK cy K L M_21 := by rw [eM_21]; exact hW.up_9 ia ⟨v1_0, v1_1, v1_2, v1_3, v1_4, v1_5, v1_6, v1_7, none, v1_9, 0, v1_11, v1_12, f_15, f_19, v1_15, rfl, h1_0, h1_1, h1_4, h1_8⟩
        have hF : fr K L [9] M M_21 := by rw [eM_21]; exact hF.up ia (by decide)
        have hT9 : fT 9 K L [6, 9, 10, 13, 14] M M_21 := by rw [eM_21]; exact hT9.up (i := 14) hM_18 rfl (by decide)
        have hM_22 : M_21 oa = .inr (9, [.int (nI v1_0), .ref v1_1, .int v1_2, .int v1_3, .int v1_4, .int v1_5, .int v1_6, .int v1_7, va_rf none, .long v1_9, .long 0, .long v1_11, .long v1_12, .long f_15, .long f_19, .long v1_15]) := by rw [eM_21]; exact va_up_self _ _ _
        refine lv_aload_n hx hb dX9_payOut_133 rfl (lv_at hl 1 rfl) ?_
        refine lv_iconst (v := 1) hx hb dX9_payOut_134 (by decide) ?_
        refine lv_aload_n hx hb dX9_payOut_135 rfl (lv_at hl 1 rfl) ?_
        refine pg_get (D := D) (ci := 9) (v := .int v1_6) (C := RX9) (T := TX9) (N := 16) hx hb hg inG9 hown hK hP ia.1 hM_22 rfl 6 (by decide) (hg _ wd_14) (fun _ h9 => h9) rfl dX9_payOut_136 ?_
        refine lv_iconst (v := 1) hx hb dX9_payOut_139 (by decide) ?_
        refine lv_isub hx hb dX9_payOut_140 ?_
        refine lv_topi (fun f_23 ef_23 => ?_)
        refine va_mmax hx hb (by rw [hml]; exact hl.1.symm) hown (hg _ wd_117) (hg _ wd_100) (hg _ wd_12) (hg _ wd_101) (Nat.le_trans (Nat.le_of_ble_eq_true rfl) hRf) (Nat.le_trans (Nat.le_of_ble_eq_true rfl) hRl) (Nat.le_trans (Nat.le_of_ble_eq_true rfl) hRc) (Nat.le_trans (Nat.le_of_ble_eq_true rfl) hRs) dX9_payOut_141 ?_
        refine lv_topi (fun f_24 ef_24 => ?_)
        refine pg_put (D := D) (ci := 9) (v := .int f_24) (ty := .int) (C := RX9) (T := TX9) (N := 16) hx hb hg inG9 tyX9 tyX9_ok nmX9 hown hK hP hD hS ia.1 hM_22 rfl 6 (by decide) (hg _ wd_14) (fun _ h9 => h9) rfl (by decide +kernel) rfl rfl (Nat.le_of_ble_eq_true rfl) dX9_payOut_144 (fun H_25 locs hP hD hS => ?_)
        obtain ⟨M_26, eM_26⟩ : ∃ M1 : Hp, M1 = va_up M_21 oa (.inr (9, [.int (nI v1_0), .ref v1_1, .int v1_2, .int v1_3, .int v1_4, .int v1_5, .int f_24, .int v1_7, va_rf none, .long v1_9, .long 0, .long v1_11, .long v1_12, .long f_15, .long f_19, .long v1_15])) := ⟨_, rfl⟩
        have hP : va_P D vwCl ([] ++ va_pl L M_26) H_25 := by rw [eM_26]; exact hP
        have hD : va_D A ([] ++ va_pl L M_26) := by rw [eM_26]; exact hD
        have hW : WOK cy K L M_26 := by rw [eM_26]; exact hW.up_9 ia ⟨v1_0, v1_1, v1_2, v1_3, v1_4, v1_5, f_24, v1_7, none, v1_9, 0, v1_11, v1_12, f_15, f_19, v1_15, rfl, h1_0, h1_1, h1_4, h1_8⟩
        have hF : fr K L [9] M M_26 := by rw [eM_26]; exact hF.up ia (by decide)
        have hT9 : fT 9 K L [6, 9, 10, 13, 14] M M_26 := by rw [eM_26]; exact hT9.up (i := 6) hM_22 rfl (by decide)
        have hM_27 : M_26 oa = .inr (9, [.int (nI v1_0), .ref v1_1, .int v1_2, .int v1_3, .int v1_4, .int v1_5, .int f_24, .int v1_7, va_rf none, .long v1_9, .long 0, .long v1_11, .long v1_12, .long f_15, .long f_19, .long v1_15]) := by rw [eM_26]; exact va_up_self _ _ _
        rw [hQ]
        exact W.vret hx hb hr (fun t ht hW9 => ⟨⟨M_26, rfl, ⟨hW, hF, hT9, trivial⟩, ⟨by rw [ht]; exact hP, hD⟩⟩, hS.F ht⟩) hS.2.2 dX9_payOut_147
    · have hz := rfl (a := 0)
      have d_4 : ¬ v1_9 ≤ 0 := lc_lef c_3
      refine lv_aload_n hx hb dX9_payOut_59 rfl (lv_at hl 0 rfl) ?_
      refine lv_dup hx hb dX9_payOut_60 rfl ?_
      refine pg_get (D := D) (ci := 9) (v := .long v1_13) (C := RX9) (T := TX9) (N := 16) hx hb hg inG9 hown hK hP ia.1 hM1 rfl 13 (by decide) (hg _ wd_19) (fun _ h9 => h9) rfl dX9_payOut_61 ?_
      refine lv_aload_n hx hb dX9_payOut_64 rfl (lv_at hl 0 rfl) ?_
      refine pg_get (D := D) (ci := 9) (v := .long v1_9) (C := RX9) (T := TX9) (N := 16) hx hb hg inG9 hown hK hP ia.1 hM1 rfl 9 (by decide) (hg _ wd_16) (fun _ h9 => h9) rfl dX9_payOut_65 ?_
      refine lv_ladd hx hb dX9_payOut_68 ?_
      refine lv_topl (fun f_28 ef_28 => ?_)
      refine pg_put (D := D) (ci := 9) (v := .long f_28) (ty := .long) (C := RX9) (T := TX9) (N := 16) hx hb hg inG9 tyX9 tyX9_ok nmX9 hown hK hP hD hS ia.1 hM1 rfl 13 (by decide) (hg _ wd_19) (fun _ h9 => h9) rfl (by decide +kernel) rfl rfl (Nat.le_of_ble_eq_true rfl) dX9_payOut_69 (fun H_29 locs hP hD hS => ?_)
      obtain ⟨M_30, eM_30⟩ : ∃ M1 : Hp, M1 = va_up M oa (.inr (9, [.int (nI v1_0), .ref v1_1, .int v1_2, .int v1_3, .int v1_4, .int v1_5, .int v1_6, .int v1_7, va_rf none, .long v1_9, .long v1_10, .long v1_11, .long v1_12, .long f_28, .long v1_14, .long v1_15])) := ⟨_, rfl⟩
      have hP : va_P D vwCl ([] ++ va_pl L M_30) H_29 := by rw [eM_30]; exact hP
      have hD : va_D A ([] ++ va_pl L M_30) := by rw [eM_30]; exact hD
      have hW : WOK cy K L M_30 := by rw [eM_30]; exact hW.up_9 ia ⟨v1_0, v1_1, v1_2, v1_3, v1_4, v1_5, v1_6, v1_7, none, v1_9, v1_10, v1_11, v1_12, f_28, v1_14, v1_15, rfl, h1_0, h1_1, h1_4, h1_8⟩
      have hF : fr K L [9] M M_30 := by rw [eM_30]; exact hF.up ia (by decide)
      have hT9 : fT 9 K L [6, 9, 10, 13, 14] M M_30 := by rw [eM_30]; exact hT9.up (i := 13) hM1 rfl (by decide)
      have hM_31 : M_30 oa = .inr (9, [.int (nI v1_0), .ref v1_1, .int v1_2, .int v1_3, .int v1_4, .int v1_5, .int v1_6, .int v1_7, va_rf none, .long v1_9, .long v1_10, .long v1_11, .long v1_12, .long f_28, .long v1_14, .long v1_15]) := by rw [eM_30]; exact va_up_self _ _ _
      refine lv_aload_n hx hb dX9_payOut_72 rfl (lv_at hl 0 rfl) ?_
      refine lv_lconst (v := 0) hx hb dX9_payOut_73 (by decide) ?_
      refine pg_put (D := D) (ci := 9) (v := .long 0) (ty := .long) (C := RX9) (T := TX9) (N := 16) hx hb hg inG9 tyX9 tyX9_ok nmX9 hown hK hP hD hS ia.1 hM_31 rfl 9 (by decide) (hg _ wd_16) (fun _ h9 => h9) rfl (by decide +kernel) rfl rfl (Nat.le_of_ble_eq_true rfl) dX9_payOut_74 (fun H_32 locs hP hD hS => ?_)
      obtain ⟨M_33, eM_33⟩ : ∃ M1 : Hp, M1 = va_up M_30 oa (.inr (9, [.int (nI v1_0), .ref v1_1, .int v1_2, .int v1_3, .int v1_4, .int v1_5, .int v1_6, .int v1_7, va_rf none, .long 0, .long v1_10, .long v1_11, .long v1_12, .long f_28, .long v1_14, .long v1_15])) := ⟨_, rfl⟩
      have hP : va_P D vwCl ([] ++ va_pl L M_33) H_32 := by rw [eM_33]; exact hP
      have hD : va_D A ([] ++ va_pl L M_33) := by rw [eM_33]; exact hD
      have hW : WOK cy K L M_33 := by rw [eM_33]; exact hW.up_9 ia ⟨v1_0, v1_1, v1_2, v1_3, v1_4, v1_5, v1_6, v1_7, none, 0, v1_10, v1_11, v1_12, f_28, v1_14, v1_15, rfl, h1_0, h1_1, h1_4, h1_8⟩
      have hF : fr K L [9] M M_33 := by rw [eM_33]; exact hF.up ia (by decide)
      have hT9 : fT 9 K L [6, 9, 10, 13, 14] M M_33 := by rw [eM_33]; exact hT9.up (i := 9) hM_31 rfl (by decide)
      have hM_34 : M_33 oa = .inr (9, [.int (nI v1_0), .ref v1_1, .int v1_2, .int v1_3, .int v1_4, .int v1_5, .int v1_6, .int v1_7, va_rf none, .long 0, .long v1_10, .long v1_11, .long v1_12, .long f_28, .long v1_14, .long v1_15]) := by rw [eM_33]; exact va_up_self _ _ _
      refine lv_aload_n hx hb dX9_payOut_77 rfl (lv_at hl 0 rfl) ?_
      refine lv_dup hx hb dX9_payOut_78 rfl ?_
      refine pg_get (D := D) (ci := 9) (v := .long f_28) (C := RX9) (T := TX9) (N := 16) hx hb hg inG9 hown hK hP ia.1 hM_34 rfl 13 (by decide) (hg _ wd_19) (fun _ h9 => h9) rfl dX9_payOut_79 ?_
      refine lv_aload_n hx hb dX9_payOut_82 rfl (lv_at hl 0 rfl) ?_
      refine pg_get (D := D) (ci := 9) (v := .long v1_10) (C := RX9) (T := TX9) (N := 16) hx hb hg inG9 hown hK hP ia.1 hM_34 rfl 10 (by decide) (hg _ wd_17) (fun _ h9 => h9) rfl dX9_payOut_83 ?_
      refine lv_ladd hx hb dX9_payOut_86 ?_
      refine lv_topl (fun f_35 ef_35 => ?_)
      refine pg_put (D := D) (ci := 9) (v := .long f_35) (ty := .long) (C := RX9) (T := TX9) (N := 16) hx hb hg inG9 tyX9 tyX9_ok nmX9 hown hK hP hD hS ia.1 hM_34 rfl 13 (by decide) (hg _ wd_19) (fun _ h9 => h9) rfl (by decide +kernel) rfl rfl (Nat.le_of_ble_eq_true rfl) dX9_payOut_87 (fun H_36 locs hP hD hS => ?_)
      obtain ⟨M_37, eM_37⟩ : ∃ M1 : Hp, M1 = va_up M_33 oa (.inr (9, [.int (nI v1_0), .ref v1_1, .int v1_2, .int v1_3, .int v1_4, .int v1_5, .int v1_6, .int v1_7, va_rf none, .long 0, .long v1_10, .long v1_11, .long v1_12, .long f_35, .long v1_14, .long v1_15])) := ⟨_, rfl⟩
      have hP : va_P D vwCl ([] ++ va_pl L M_37) H_36 := by rw [eM_37]; exact hP
      have hD : va_D A ([] ++ va_pl L M_37) := by rw [eM_37]; exact hD
      have hW : WOK cy K L M_37 := by rw [eM_37]; exact hW.up_9 ia ⟨v1_0, v1_1, v1_2, v1_3, v1_4, v1_5, v1_6, v1_7, none, 0, v1_10, v1_11, v1_12, f_35, v1_14, v1_15, rfl, h1_0, h1_1, h1_4, h1_8⟩
      have hF : fr K L [9] M M_37 := by rw [eM_37]; exact hF.up ia (by decide)
      have hT9 : fT 9 K L [6, 9, 10, 13, 14] M M_37 := by rw [eM_37]; exact hT9.up (i := 13) hM_34 rfl (by decide)
      have hM_38 : M_37 oa = .inr (9, [.int (nI v1_0), .ref v1_1, .int v1_2, .int v1_3, .int v1_4, .int v1_5, .int v1_6, .int v1_7, va_rf none, .long 0, .long v1_10, .long v1_11, .long v1_12, .long f_35, .long v1_14, .long v1_15]) := by rw [eM_37]; exact va_up_self _ _ _
      refine lv_aload_n hx hb dX9_payOut_90 rfl (lv_at hl 0 rfl) ?_
      refine lv_lconst (v := 0) hx hb dX9_payOut_91 (by decide) ?_
      refine pg_put (D := D) (ci := 9) (v := .long 0) (ty := .long) (C := RX9) (T := TX9) (N := 16) hx hb hg inG9 tyX9 tyX9_ok nmX9 hown hK hP hD hS ia.1 hM_38 rfl 10 (by decide) (hg _ wd_17) (fun _ h9 => h9) rfl (by decide +kernel) rfl rfl (Nat.le_of_ble_eq_true rfl) dX9_payOut_92 (fun H_39 locs hP hD hS => ?_)
      obtain ⟨M_40, eM_40⟩ : ∃ M1 : Hp, M1 = va_up M_37 oa (.inr (9, [.int (nI v1_0), .ref v1_1, .int v1_2, .int v1_3, .int v1_4, .int v1_5, .int v1_6, .int v1_7, va_rf none, .long 0, .long 0, .long v1_11, .long v1_12, .long f_35, .long v1_14, .long v1_15])) := ⟨_, rfl⟩
      have hP : va_P D vwCl ([] ++ va_pl L M_40) H_39 := by rw [eM_40]; exact hP
      have hD : va_D A ([] ++ va_pl L M_40) := by rw [eM_40]; exact hD
      have hW : WOK cy K L M_40 := by rw [eM_40]; exact hW.up_9 ia ⟨v1_0, v1_1, v1_2, v1_3, v1_4, v1_5, v1_6, v1_7, none, 0, 0, v1_11, v1_12, f_35, v1_14, v1_15, rfl, h1_0, h1_1, h1_4, h1_8⟩
      have hF : fr K L [9] M M_40 := by rw [eM_40]; exact hF.up ia (by decide)
      have hT9 : fT 9 K L [6, 9, 10, 13, 14] M M_40 := by rw [eM_40]; exact hT9.up (i := 10) hM_38 rfl (by decide)
      have hM_41 : M_40 oa = .inr (9, [.int (nI v1_0), .ref v1_1, .int v1_2, .int v1_3, .int v1_4, .int v1_5, .int v1_6, .int v1_7, va_rf none, .long 0, .long 0, .long v1_11, .long v1_12, .long f_35, .long v1_14, .long v1_15]) := by rw [eM_40]; exact va_up_self _ _ _
      refine lv_aload_n hx hb dX9_payOut_95 rfl (lv_at hl 0 rfl) ?_
      refine pg_get (D := D) (ci := 9) (v := .int v1_6) (C := RX9) (T := TX9) (N := 16) hx hb hg inG9 hown hK hP ia.1 hM_41 rfl 6 (by decide) (hg _ wd_14) (fun _ h9 => h9) rfl dX9_payOut_96 ?_
      refine lv_if_le (tgt := 147) hx hb dX9_payOut_99 (by decide) (fun c_42 => ?_) (fun c_42 => ?_)
      · have hz := rfl (a := 0)
        rw [hQ]
        exact W.vret hx hb hr (fun t ht hW9 => ⟨⟨M_40, rfl, ⟨hW, hF, hT9, trivial⟩, ⟨by rw [ht]; exact hP, hD⟩⟩, hS.F ht⟩) hS.2.2 dX9_payOut_147
      · have hz := rfl (a := 0)
        refine lv_aload_n hx hb dX9_payOut_102 rfl (lv_at hl 0 rfl) ?_
        refine pg_get (D := D) (ci := 9) (v := .long f_35) (C := RX9) (T := TX9) (N := 16) hx hb hg inG9 hown hK hP ia.1 hM_41 rfl 13 (by decide) (hg _ wd_19) (fun _ h9 => h9) rfl dX9_payOut_103 ?_
        refine lv_aload_n hx hb dX9_payOut_106 rfl (lv_at hl 0 rfl) ?_
        refine pg_get (D := D) (ci := 9) (v := .int v1_6) (C := RX9) (T := TX9) (N := 16) hx hb hg inG9 hown hK hP ia.1 hM_41 rfl 6 (by decide) (hg _ wd_14) (fun _ h9 => h9) rfl dX9_payOut_107 ?_
        refine lv_i2l hx hb dX9_payOut_110 rfl ?_
        refine lv_topl (fun f_43 ef_43 => ?_)
        refine lv_ldiv hx hb dX9_payOut_111 (i2l_nz ef_43 c_42) ?_
        refine lv_topl (fun f_44 ef_44 => ?_)
        refine lv_lstore_n (lv' := [(1, .long f_44), (0, .ref oa)]) hx hb dX9_payOut_112 rfl hl (by decide) rfl (fun ls hl => ?_)
        refine lv_aload_n hx hb dX9_payOut_113 rfl (lv_at hl 1 rfl) ?_
        refine lv_dup hx hb dX9_payOut_114 rfl ?_
        refine pg_get (D := D) (ci := 9) (v := .long f_35) (C := RX9) (T := TX9) (N := 16) hx hb hg inG9 hown hK hP ia.1 hM_41 rfl 13 (by decide) (hg _ wd_19) (fun _ h9 => h9) rfl dX9_payOut_115 ?_
        refine lv_lload_n hx hb dX9_payOut_118 rfl (lv_at hl 0 rfl) ?_
        refine lv_lsub hx hb dX9_payOut_119 ?_
        refine lv_topl (fun f_45 ef_45 => ?_)
        refine pg_put (D := D) (ci := 9) (v := .long f_45) (ty := .long) (C := RX9) (T := TX9) (N := 16) hx hb hg inG9 tyX9 tyX9_ok nmX9 hown hK hP hD hS ia.1 hM_41 rfl 13 (by decide) (hg _ wd_19) (fun _ h9 => h9) rfl (by decide +kernel) rfl rfl (Nat.le_of_ble_eq_true rfl) dX9_payOut_120 (fun H_46 locs hP hD hS => ?_)
        obtain ⟨M_47, eM_47⟩ : ∃ M1 : Hp, M1 = va_up M_40 oa (.inr (9, [.int (nI v1_0), .ref v1_1, .int v1_2, .int v1_3, .int v1_4, .int v1_5, .int v1_6, .int v1_7, va_rf none, .long 0, .long 0, .long v1_11, .long v1_12, .long f_45, .long v1_14, .long v1_15])) := ⟨_, rfl⟩
        have hP : va_P D vwCl ([] ++ va_pl L M_47) H_46 := by rw [eM_47]; exact hP
        have hD : va_D A ([] ++ va_pl L M_47) := by rw [eM_47]; exact hD
        have hW : WOK cy K L M_47 := by rw [eM_47]; exact hW.up_9 ia ⟨v1_0, v1_1, v1_2, v1_3, v1_4, v1_5, v1_6, v1_7, none, 0, 0, v1_11, v1_12, f_45, v1_14, v1_15, rfl, h1_0, h1_1, h1_4, h1_8⟩
        have hF : fr K L [9] M M_47 := by rw [eM_47]; exact hF.up ia (by decide)
        have hT9 : fT 9 K L [6, 9, 10, 13, 14] M M_47 := by rw [eM_47]; exact hT9.up (i := 13) hM_41 rfl (by decide)
        have hM_48 : M_47 oa = .inr (9, [.int (nI v1_0), .ref v1_1, .int v1_2, .int v1_3, .int v1_4, .int v1_5, .int v1_6, .int v1_7, va_rf none, .long 0, .long 0, .long v1_11, .long v1_12, .long f_45, .long v1_14, .long v1_15]) := by rw [eM_47]; exact va_up_self _ _ _
        refine lv_aload_n hx hb dX9_payOut_123 rfl (lv_at hl 1 rfl) ?_
        refine lv_dup hx hb dX9_payOut_124 rfl ?_
        refine pg_get (D := D) (ci := 9) (v := .long v1_14) (C := RX9) (T := TX9) (N := 16) hx hb hg inG9 hown hK hP ia.1 hM_48 rfl 14 (by decide) (hg _ wd_20) (fun _ h9 => h9) rfl dX9_payOut_125 ?_
        refine lv_lload_n hx hb dX9_payOut_128 rfl (lv_at hl 0 rfl) ?_
        refine lv_ladd hx hb dX9_payOut_129 ?_
        refine lv_topl (fun f_49 ef_49 => ?_)
        refine pg_put (D := D) (ci := 9) (v := .long f_49) (ty := .long) (C := RX9) (T := TX9) (N := 16) hx hb hg inG9 tyX9 tyX9_ok nmX9 hown hK hP hD hS ia.1 hM_48 rfl 14 (by decide) (hg _ wd_20) (fun _ h9 => h9) rfl (by decide +kernel) rfl rfl (Nat.le_of_ble_eq_true rfl) dX9_payOut_130 (fun H_50 locs hP hD hS => ?_)
        obtain ⟨M_51, eM_51⟩ : ∃ M1 : Hp, M1 = va_up M_47 oa (.inr (9, [.int (nI v1_0), .ref v1_1, .int v1_2, .int v1_3, .int v1_4, .int v1_5, .int v1_6, .int v1_7, va_rf none, .long 0, .long 0, .long v1_11, .long v1_12, .long f_45, .long f_49, .long v1_15])) := ⟨_, rfl⟩
        have hP : va_P D vwCl ([] ++ va_pl L M_51) H_50 := by rw [eM_51]; exact hP
        have hD : va_D A ([] ++ va_pl L M_51) := by rw [eM_51]; exact hD
        have hW : WOK cy K L M_51 := by rw [eM_51]; exact hW.up_9 ia ⟨v1_0, v1_1, v1_2, v1_3, v1_4, v1_5, v1_6, v1_7, none, 0, 0, v1_11, v1_12, f_45, f_49, v1_15, rfl, h1_0, h1_1, h1_4, h1_8⟩
        have hF : fr K L [9] M M_51 := by rw [eM_51]; exact hF.up ia (by decide)
        have hT9 : fT 9 K L [6, 9, 10, 13, 14] M M_51 := by rw [eM_51]; exact hT9.up (i := 14) hM_48 rfl (by decide)
        have hM_52 : M_51 oa = .inr (9, [.int (nI v1_0), .ref v1_1, .int v1_2, .int v1_3, .int v1_4, .int v1_5, .int v1_6, .int v1_7, va_rf none, .long 0, .long 0, .long v1_11, .long v1_12, .long f_45, .long f_49, .long v1_15]) := by rw [eM_51]; exact va_up_self _ _ _
        refine lv_aload_n hx hb dX9_payOut_133 rfl (lv_at hl 1 rfl) ?_
        refine lv_iconst (v := 1) hx hb dX9_payOut_134 (by decide) ?_
        refine lv_aload_n hx hb dX9_payOut_135 rfl (lv_at hl 1 rfl) ?_
        refine pg_get (D := D) (ci := 9) (v := .int v1_6) (C := RX9) (T := TX9) (N := 16) hx hb hg inG9 hown hK hP ia.1 hM_52 rfl 6 (by decide) (hg _ wd_14) (fun _ h9 => h9) rfl dX9_payOut_136 ?_
        refine lv_iconst (v := 1) hx hb dX9_payOut_139 (by decide) ?_
        refine lv_isub hx hb dX9_payOut_140 ?_
        refine lv_topi (fun f_53 ef_53 => ?_)
        refine va_mmax hx hb (by rw [hml]; exact hl.1.symm) hown (hg _ wd_117) (hg _ wd_100) (hg _ wd_12) (hg _ wd_101) (Nat.le_trans (Nat.le_of_ble_eq_true rfl) hRf) (Nat.le_trans (Nat.le_of_ble_eq_true rfl) hRl) (Nat.le_trans (Nat.le_of_ble_eq_true rfl) hRc) (Nat.le_trans (Nat.le_of_ble_eq_true rfl) hRs) dX9_payOut_141 ?_
        refine lv_topi (fun f_54 ef_54 => ?_)
        refine pg_put (D := D) (ci := 9) (v := .int f_54) (ty := .int) (C := RX9) (T := TX9) (N := 16) hx hb hg inG9 tyX9 tyX9_ok nmX9 hown hK hP hD hS ia.1 hM_52 rfl 6 (by decide) (hg _ wd_14) (fun _ h9 => h9) rfl (by decide +kernel) rfl rfl (Nat.le_of_ble_eq_true rfl) dX9_payOut_144 (fun H_55 locs hP hD hS => ?_)
        obtain ⟨M_56, eM_56⟩ : ∃ M1 : Hp, M1 = va_up M_51 oa (.inr (9, [.int (nI v1_0), .ref v1_1, .int v1_2, .int v1_3, .int v1_4, .int v1_5, .int f_54, .int v1_7, va_rf none, .long 0, .long 0, .long v1_11, .long v1_12, .long f_45, .long f_49, .long v1_15])) := ⟨_, rfl⟩
        have hP : va_P D vwCl ([] ++ va_pl L M_56) H_55 := by rw [eM_56]; exact hP
        have hD : va_D A ([] ++ va_pl L M_56) := by rw [eM_56]; exact hD
        have hW : WOK cy K L M_56 := by rw [eM_56]; exact hW.up_9 ia ⟨v1_0, v1_1, v1_2, v1_3, v1_4, v1_5, f_54, v1_7, none, 0, 0, v1_11, v1_12, f_45, f_49, v1_15, rfl, h1_0, h1_1, h1_4, h1_8⟩
        have hF : fr K L [9] M M_56 := by rw [eM_56]; exact hF.up ia (by decide)
        have hT9 : fT 9 K L [6, 9, 10, 13, 14] M M_56 := by rw [eM_56]; exact hT9.up (i := 6) hM_52 rfl (by decide)
        have hM_57 : M_56 oa = .inr (9, [.int (nI v1_0), .ref v1_1, .int v1_2, .int v1_3, .int v1_4, .int v1_5, .int f_54, .int v1_7, va_rf none, .long 0, .long 0, .long v1_11, .long v1_12, .long f_45, .long f_49, .long v1_15]) := by rw [eM_56]; exact va_up_self _ _ _
        rw [hQ]
        exact W.vret hx hb hr (fun t ht hW9 => ⟨⟨M_56, rfl, ⟨hW, hF, hT9, trivial⟩, ⟨by rw [ht]; exact hP, hD⟩⟩, hS.F ht⟩) hS.2.2 dX9_payOut_147
  · have hb_58 := h1_8 b_2 rfl
    refine lv_ifnull hx hb dX9_payOut_4 ?_
    refine lv_aload_n hx hb dX9_payOut_7 rfl (lv_at hl 0 rfl) ?_
    refine pg_get (D := D) (ci := 9) (v := va_rf (some b_2)) (C := RX9) (T := TX9) (N := 16) hx hb hg inG9 hown hK hP ia.1 hM1 rfl 8 (by decide) (hg _ wd_25) (fun _ h9 => h9) rfl dX9_payOut_8 ?_
    refine lv_dup hx hb dX9_payOut_11 rfl ?_
    obtain ⟨v59_0, v59_1, v59_2, v59_3, v59_4, v59_5, v59_6, v59_7, v59_8, v59_9, v59_10, v59_11, v59_12, v59_13, v59_14, v59_15, hM59, h59_0, h59_1, h59_4, h59_8⟩ := hW.open_9 hb_58
    refine pg_get (D := D) (ci := 9) (v := .long v59_9) (C := RX9) (T := TX9) (N := 16) hx hb hg inG9 hown hK hP hb_58.1 hM59 rfl 9 (by decide) (hg _ wd_16) (fun _ h9 => h9) rfl dX9_payOut_12 ?_
    refine lv_aload_n hx hb dX9_payOut_15 rfl (lv_at hl 0 rfl) ?_
    refine pg_get (D := D) (ci := 9) (v := .long v1_9) (C := RX9) (T := TX9) (N := 16) hx hb hg inG9 hown hK hP ia.1 hM1 rfl 9 (by decide) (hg _ wd_16) (fun _ h9 => h9) rfl dX9_payOut_16 ?_
    refine lv_ladd hx hb dX9_payOut_19 ?_
    refine lv_topl (fun f_60 ef_60 => ?_)
    refine pg_put (D := D) (ci := 9) (v := .long f_60) (ty := .long) (C := RX9) (T := TX9) (N := 16) hx hb hg inG9 tyX9 tyX9_ok nmX9 hown hK hP hD hS hb_58.1 hM59 rfl 9 (by decide) (hg _ wd_16) (fun _ h9 => h9) rfl (by decide +kernel) rfl rfl (Nat.le_of_ble_eq_true rfl) dX9_payOut_20 (fun H_61 locs hP hD hS => ?_)
    obtain ⟨M_62, eM_62⟩ : ∃ M1 : Hp, M1 = va_up M b_2 (.inr (9, [.int (nI v59_0), .ref v59_1, .int v59_2, .int v59_3, .int v59_4, .int v59_5, .int v59_6, .int v59_7, va_rf v59_8, .long f_60, .long v59_10, .long v59_11, .long v59_12, .long v59_13, .long v59_14, .long v59_15])) := ⟨_, rfl⟩
    have hP : va_P D vwCl ([] ++ va_pl L M_62) H_61 := by rw [eM_62]; exact hP
    have hD : va_D A ([] ++ va_pl L M_62) := by rw [eM_62]; exact hD
    have hW : WOK cy K L M_62 := by rw [eM_62]; exact hW.up_9 hb_58 ⟨v59_0, v59_1, v59_2, v59_3, v59_4, v59_5, v59_6, v59_7, v59_8, f_60, v59_10, v59_11, v59_12, v59_13, v59_14, v59_15, rfl, h59_0, h59_1, h59_4, h59_8⟩
    have hF : fr K L [9] M M_62 := by rw [eM_62]; exact hF.up hb_58 (by decide)
    have hT9 : fT 9 K L [6, 9, 10, 13, 14] M M_62 := by rw [eM_62]; exact hT9.up (i := 9) hM59 rfl (by decide)
    have hM_63 : M_62 b_2 = .inr (9, [.int (nI v59_0), .ref v59_1, .int v59_2, .int v59_3, .int v59_4, .int v59_5, .int v59_6, .int v59_7, va_rf v59_8, .long f_60, .long v59_10, .long v59_11, .long v59_12, .long v59_13, .long v59_14, .long v59_15]) := by rw [eM_62]; exact va_up_self _ _ _
    obtain ⟨x_64, hM_65⟩ : ∃ x : Int64, M_62 oa = .inr (9, [.int (nI v1_0), .ref v1_1, .int v1_2, .int v1_3, .int v1_4, .int v1_5, .int v1_6, .int v1_7, va_rf (some b_2), .long x, .long v1_10, .long v1_11, .long v1_12, .long v1_13, .long v1_14, .long v1_15]) := by
      rw [eM_62]
      rcases up_same (v := .long f_60) (j := 9) hM59 hM1 with h | h
      · exact ⟨f_60, h⟩
      · exact ⟨v1_9, h⟩
    refine lv_aload_n hx hb dX9_payOut_23 rfl (lv_at hl 0 rfl) ?_
    refine pg_get (D := D) (ci := 9) (v := va_rf (some b_2)) (C := RX9) (T := TX9) (N := 16) hx hb hg inG9 hown hK hP ia.1 hM_65 rfl 8 (by decide) (hg _ wd_25) (fun _ h9 => h9) rfl dX9_payOut_24 ?_
    refine lv_dup hx hb dX9_payOut_27 rfl ?_
    refine pg_get (D := D) (ci := 9) (v := .long v59_10) (C := RX9) (T := TX9) (N := 16) hx hb hg inG9 hown hK hP hb_58.1 hM_63 rfl 10 (by decide) (hg _ wd_17) (fun _ h9 => h9) rfl dX9_payOut_28 ?_
    refine lv_aload_n hx hb dX9_payOut_31 rfl (lv_at hl 0 rfl) ?_
    refine pg_get (D := D) (ci := 9) (v := .long v1_10) (C := RX9) (T := TX9) (N := 16) hx hb hg inG9 hown hK hP ia.1 hM_65 rfl 10 (by decide) (hg _ wd_17) (fun _ h9 => h9) rfl dX9_payOut_32 ?_
    refine lv_ladd hx hb dX9_payOut_35 ?_
    refine lv_topl (fun f_66 ef_66 => ?_)
    refine pg_put (D := D) (ci := 9) (v := .long f_66) (ty := .long) (C := RX9) (T := TX9) (N := 16) hx hb hg inG9 tyX9 tyX9_ok nmX9 hown hK hP hD hS hb_58.1 hM_63 rfl 10 (by decide) (hg _ wd_17) (fun _ h9 => h9) rfl (by decide +kernel) rfl rfl (Nat.le_of_ble_eq_true rfl) dX9_payOut_36 (fun H_67 locs hP hD hS => ?_)
    obtain ⟨M_68, eM_68⟩ : ∃ M1 : Hp, M1 = va_up M_62 b_2 (.inr (9, [.int (nI v59_0), .ref v59_1, .int v59_2, .int v59_3, .int v59_4, .int v59_5, .int v59_6, .int v59_7, va_rf v59_8, .long f_60, .long f_66, .long v59_11, .long v59_12, .long v59_13, .long v59_14, .long v59_15])) := ⟨_, rfl⟩
    have hP : va_P D vwCl ([] ++ va_pl L M_68) H_67 := by rw [eM_68]; exact hP
    have hD : va_D A ([] ++ va_pl L M_68) := by rw [eM_68]; exact hD
    have hW : WOK cy K L M_68 := by rw [eM_68]; exact hW.up_9 hb_58 ⟨v59_0, v59_1, v59_2, v59_3, v59_4, v59_5, v59_6, v59_7, v59_8, f_60, f_66, v59_11, v59_12, v59_13, v59_14, v59_15, rfl, h59_0, h59_1, h59_4, h59_8⟩
    have hF : fr K L [9] M M_68 := by rw [eM_68]; exact hF.up hb_58 (by decide)
    have hT9 : fT 9 K L [6, 9, 10, 13, 14] M M_68 := by rw [eM_68]; exact hT9.up (i := 10) hM_63 rfl (by decide)
    have hM_69 : M_68 b_2 = .inr (9, [.int (nI v59_0), .ref v59_1, .int v59_2, .int v59_3, .int v59_4, .int v59_5, .int v59_6, .int v59_7, va_rf v59_8, .long f_60, .long f_66, .long v59_11, .long v59_12, .long v59_13, .long v59_14, .long v59_15]) := by rw [eM_68]; exact va_up_self _ _ _
    obtain ⟨x_70, hM_71⟩ : ∃ x : Int64, M_68 oa = .inr (9, [.int (nI v1_0), .ref v1_1, .int v1_2, .int v1_3, .int v1_4, .int v1_5, .int v1_6, .int v1_7, va_rf (some b_2), .long x_64, .long x, .long v1_11, .long v1_12, .long v1_13, .long v1_14, .long v1_15]) := by
      rw [eM_68]
      rcases up_same (v := .long f_66) (j := 10) hM_63 hM_65 with h | h
      · exact ⟨f_66, h⟩
      · exact ⟨v1_10, h⟩
    refine lv_aload_n hx hb dX9_payOut_39 rfl (lv_at hl 0 rfl) ?_
    refine lv_lconst (v := 0) hx hb dX9_payOut_40 (by decide) ?_
    refine pg_put (D := D) (ci := 9) (v := .long 0) (ty := .long) (C := RX9) (T := TX9) (N := 16) hx hb hg inG9 tyX9 tyX9_ok nmX9 hown hK hP hD hS ia.1 hM_71 rfl 9 (by decide) (hg _ wd_16) (fun _ h9 => h9) rfl (by decide +kernel) rfl rfl (Nat.le_of_ble_eq_true rfl) dX9_payOut_41 (fun H_72 locs hP hD hS => ?_)
    obtain ⟨M_73, eM_73⟩ : ∃ M1 : Hp, M1 = va_up M_68 oa (.inr (9, [.int (nI v1_0), .ref v1_1, .int v1_2, .int v1_3, .int v1_4, .int v1_5, .int v1_6, .int v1_7, va_rf (some b_2), .long 0, .long x_70, .long v1_11, .long v1_12, .long v1_13, .long v1_14, .long v1_15])) := ⟨_, rfl⟩
    have hP : va_P D vwCl ([] ++ va_pl L M_73) H_72 := by rw [eM_73]; exact hP
    have hD : va_D A ([] ++ va_pl L M_73) := by rw [eM_73]; exact hD
    have hW : WOK cy K L M_73 := by rw [eM_73]; exact hW.up_9 ia ⟨v1_0, v1_1, v1_2, v1_3, v1_4, v1_5, v1_6, v1_7, (some b_2), 0, x_70, v1_11, v1_12, v1_13, v1_14, v1_15, rfl, h1_0, h1_1, h1_4, h1_8⟩
    have hF : fr K L [9] M M_73 := by rw [eM_73]; exact hF.up ia (by decide)
    have hT9 : fT 9 K L [6, 9, 10, 13, 14] M M_73 := by rw [eM_73]; exact hT9.up (i := 9) hM_71 rfl (by decide)
    have hM_74 : M_73 oa = .inr (9, [.int (nI v1_0), .ref v1_1, .int v1_2, .int v1_3, .int v1_4, .int v1_5, .int v1_6, .int v1_7, va_rf (some b_2), .long 0, .long x_70, .long v1_11, .long v1_12, .long v1_13, .long v1_14, .long v1_15]) := by rw [eM_73]; exact va_up_self _ _ _
    obtain ⟨x_75, hM_76⟩ : ∃ x : Int64, M_73 b_2 = .inr (9, [.int (nI v59_0), .ref v59_1, .int v59_2, .int v59_3, .int v59_4, .int v59_5, .int v59_6, .int v59_7, va_rf v59_8, .long x, .long f_66, .long v59_11, .long v59_12, .long v59_13, .long v59_14, .long v59_15]) := by
      rw [eM_73]
      rcases up_same (v := .long 0) (j := 9) hM_71 hM_69 with h | h
      · exact ⟨0, h⟩
      · exact ⟨f_60, h⟩
    refine lv_aload_n hx hb dX9_payOut_44 rfl (lv_at hl 0 rfl) ?_
    refine lv_lconst (v := 0) hx hb dX9_payOut_45 (by decide) ?_
    refine pg_put (D := D) (ci := 9) (v := .long 0) (ty := .long) (C := RX9) (T := TX9) (N := 16) hx hb hg inG9 tyX9 tyX9_ok nmX9 hown hK hP hD hS ia.1 hM_74 rfl 10 (by decide) (hg _ wd_17) (fun _ h9 => h9) rfl (by decide +kernel) rfl rfl (Nat.le_of_ble_eq_true rfl) dX9_payOut_46 (fun H_77 locs hP hD hS => ?_)
    obtain ⟨M_78, eM_78⟩ : ∃ M1 : Hp, M1 = va_up M_73 oa (.inr (9, [.int (nI v1_0), .ref v1_1, .int v1_2, .int v1_3, .int v1_4, .int v1_5, .int v1_6, .int v1_7, va_rf (some b_2), .long 0, .long 0, .long v1_11, .long v1_12, .long v1_13, .long v1_14, .long v1_15])) := ⟨_, rfl⟩
    have hP : va_P D vwCl ([] ++ va_pl L M_78) H_77 := by rw [eM_78]; exact hP
    have hD : va_D A ([] ++ va_pl L M_78) := by rw [eM_78]; exact hD
    have hW : WOK cy K L M_78 := by rw [eM_78]; exact hW.up_9 ia ⟨v1_0, v1_1, v1_2, v1_3, v1_4, v1_5, v1_6, v1_7, (some b_2), 0, 0, v1_11, v1_12, v1_13, v1_14, v1_15, rfl, h1_0, h1_1, h1_4, h1_8⟩
    have hF : fr K L [9] M M_78 := by rw [eM_78]; exact hF.up ia (by decide)
    have hT9 : fT 9 K L [6, 9, 10, 13, 14] M M_78 := by rw [eM_78]; exact hT9.up (i := 10) hM_74 rfl (by decide)
    have hM_79 : M_78 oa = .inr (9, [.int (nI v1_0), .ref v1_1, .int v1_2, .int v1_3, .int v1_4, .int v1_5, .int v1_6, .int v1_7, va_rf (some b_2), .long 0, .long 0, .long v1_11, .long v1_12, .long v1_13, .long v1_14, .long v1_15]) := by rw [eM_78]; exact va_up_self _ _ _
    obtain ⟨x_80, hM_81⟩ : ∃ x : Int64, M_78 b_2 = .inr (9, [.int (nI v59_0), .ref v59_1, .int v59_2, .int v59_3, .int v59_4, .int v59_5, .int v59_6, .int v59_7, va_rf v59_8, .long x_75, .long x, .long v59_11, .long v59_12, .long v59_13, .long v59_14, .long v59_15]) := by
      rw [eM_78]
      rcases up_same (v := .long 0) (j := 10) hM_74 hM_76 with h | h
      · exact ⟨0, h⟩
      · exact ⟨f_66, h⟩
    rw [hQ]
    exact W.vret hx hb hr (fun t ht hW9 => ⟨⟨M_78, rfl, ⟨hW, hF, hT9, trivial⟩, ⟨by rw [ht]; exact hP, hD⟩⟩, hS.F ht⟩) hS.2.2 dX9_payOut_49
set_option maxHeartbeats 4000000 in
set_option maxRecDepth 100000 in
theorem s_X1_isFull (l : Launch) (D : va_G) (cy : Nat → ClassId) (K : Kp) (L : List Nat) (M : Hp) (sz : Nat) (oa : Nat) (xn : Nat) (x0 : Nat) (x1 : Nat) (x2 : Nat) (x3 : Nat) (hW : WOK cy K L M) (ia : isk K L oa 1 0) (hMo : M oa = .inr (1, [.ref x0, .ref x1, .ref x2, .int (nI x3)])) (ho0 : isk K L x0 63 xn) (ho1 : isk K L x1 56 xn) (ho2 : isk K L x2 57 xn) (ho3 : x3 ≤ xn) (hoe0 : xn ≤ 120) : Met l yX1_isFull (wsM yX1_isFull cX1_isFull 1 (some .boolean)) ({ frames := 0, cells := 0, slots := 0, locals := 0 }) (va_Pc [.ref oa] (PG D cy [] L M sz)) (va_Qi (fun (r : Int32) (_ : Unit) => (r = 1) ∨ (r = 0 ∧ x3 < xn)) (fun _ t => PQ D [] L M (va_A ([] ++ va_pl L M) sz) t) (va_A ([] ++ va_pl L M) sz)) 0 0 (va_A ([] ++ va_pl L M) sz) := by
  refine Met.ofW (cc := cX1_isFull) (maxL := 1) (ret := (some .boolean)) (by decide) rfl ?_
  intro p e s m args below meth c s₁ B hml hv
  obtain ⟨rfl, hsz, hP, hK, hD0, hN⟩ := hv
  have hx := B.exec
  have hb := B.bytes
  have hr := B.returns
  have hts := atoms_spec (ws := (wsM yX1_isFull cX1_isFull 1 (some .boolean))) B.pre
  have hg : ∀ w ∈ lw_good, w.before _ s = true := fun w h => hts w (List.mem_cons_of_mem _ h)
  have hown : s.vm.findClass RX1 = some m.cls := findClass_of_methodNamed B.named
  have hlocks := B.notSynchronized
  subst hsz
  have hD := hD0.self (sz := s.heap.size)
  generalize hAe : va_A ([] ++ va_pl L M) s.heap.size = A at hD ⊢
  have hA : ∀ q : Nat, s.heap.size ≤ q → A q := fun q h => by rw [← hAe]; exact Or.inr h
  have hS : va_S A s.heap s.heap [] := va_S.rf
  have hl := lv_entry ([.ref oa]) (n := 1) (Nat.le_of_ble_eq_true rfl)
  rw [lg_entry_eq]
  generalize (lg_sl ([.ref oa]) ++ List.replicate (1 - (lg_sl ([.ref oa])).length) Slot.unset).toArray = ls at hl ⊢
  refine W.nameQ (fun Q hQ => ?_)
  refine W.nameR (fun R hR => ?_)
  have hRf : 0 ≤ R.frames := by rw [hR]; exact Nat.le_of_ble_eq_true rfl
  have hRl : 0 ≤ R.locals := by rw [hR]; exact Nat.le_of_ble_eq_true rfl
  have hRc : 0 ≤ R.cells := by rw [hR]; exact Nat.le_of_ble_eq_true rfl
  have hRs : 0 ≤ R.slots := by rw [hR]; exact Nat.le_of_ble_eq_true rfl
  have hl : lv_has ls 1 [(0, .ref oa)] := hl
  refine lv_aload_n hx hb dX1_isFull_0 rfl (lv_at hl 0 rfl) ?_
  refine pg_get (D := D) (ci := 1) (v := .int (nI x3)) (C := RX1) (T := TX1) (N := 4) hx hb hg inG1 hown hK hP ia.1 hMo rfl 3 (by decide) (hg _ wd_118) (fun _ h9 => h9) rfl dX1_isFull_1 ?_
  refine lv_aload_n hx hb dX1_isFull_4 rfl (lv_at hl 0 rfl) ?_
  refine pg_get (D := D) (ci := 1) (v := .ref x1) (C := RX1) (T := TX1) (N := 4) hx hb hg inG1 hown hK hP ia.1 hMo rfl 1 (by decide) (hg _ wd_119) (fun _ h9 => h9) rfl dX1_isFull_5 ?_
  obtain ⟨f1, hM1⟩ := hW.open_56 ho1
  refine pg_alen (v := (nI xn)) hx hb hK hP ho1.1 0 hM1 rfl (by rfl) dX1_isFull_8 ?_
  refine lv_icmp_lt (tgt := 16) hx hb dX1_isFull_9 (by decide) (fun c_2 => ?_) (fun c_2 => ?_)
  · have hz := rfl (a := 0)
    have n_3 : x3 < xn := (iLT (a := x3) (b := xn) (by omega) (by omega)).mp c_2
    refine lv_iconst (v := 0) hx hb dX1_isFull_16 (by decide) ?_
    rw [hQ]
    exact W.zret (v := 0) hx hb hr rfl (fun t ht hW9 => ⟨⟨0, (), rfl, (Or.inr ⟨rfl, (by omega)⟩), ⟨by rw [ht]; exact hP, hD⟩⟩, hS.F ht⟩) hS.2.2 dX1_isFull_17
  · have hz := rfl (a := 0)
    have n_4 : ¬ (x3 < xn) := fun q => c_2 ((iLT (a := x3) (b := xn) (by omega) (by omega)).mpr q)
    refine lv_iconst (v := 1) hx hb dX1_isFull_12 (by decide) ?_
    refine lv_goto (tgt := 17) hx hb dX1_isFull_13 (by decide) ?_
    rw [hQ]
    exact W.zret (v := 1) hx hb hr rfl (fun t ht hW9 => ⟨⟨1, (), rfl, (Or.inl rfl), ⟨by rw [ht]; exact hP, hD⟩⟩, hS.F ht⟩) hS.2.2 dX1_isFull_17
set_option maxHeartbeats 4000000 in
set_option maxRecDepth 100000 in
theorem s_X1_append_n (l : Launch) (D : va_G) (cy : Nat → ClassId) (K : Kp) (L : List Nat) (M : Hp) (sz : Nat) (oa : Nat) (k2 : Int32) (k3 : Int32) (hW : WOK cy K L M) (ia : isk K L oa 1 0) : Met l yX1_append (wsM yX1_append cX1_append 4 none) ({ frames := 1, cells := 0, slots := 0, locals := 20 }) (va_Pc [.ref oa, .null, .int k2, .int k3] (PG D cy [] L M sz)) (va_Qv (fun (M9 : Hp) => WOK cy K L M9 ∧ fr K L [1, 56, 57, 63] M M9 ∧ fT 1 K L [3] M M9 ∧ (True)) (fun M9 t => PQ D [] L M9 (va_A ([] ++ va_pl L M) sz) t) (va_A ([] ++ va_pl L M) sz)) 0 0 (va_A ([] ++ va_pl L M) sz) := by
  refine Met.ofW (cc := cX1_append) (maxL := 4) (ret := none) (by decide) rfl ?_
  intro p e s m args below meth c s₁ B hml hv
  obtain ⟨rfl, hsz, hP, hK, hD0, hN⟩ := hv
  have hx := B.exec
  have hb := B.bytes
  have hr := B.returns
  have hts := atoms_spec (ws := (wsM yX1_append cX1_append 4 none)) B.pre
  have hg : ∀ w ∈ lw_good, w.before _ s = true := fun w h => hts w (List.mem_cons_of_mem _ h)
  have hown : s.vm.findClass RX1 = some m.cls := findClass_of_methodNamed B.named
  have hlocks := B.notSynchronized
  subst hsz
  have hD := hD0.self (sz := s.heap.size)
  generalize hAe : va_A ([] ++ va_pl L M) s.heap.size = A at hD ⊢
  have hA : ∀ q : Nat, s.heap.size ≤ q → A q := fun q h => by rw [← hAe]; exact Or.inr h
  have hS : va_S A s.heap s.heap [] := va_S.rf
  have hl := lv_entry ([.ref oa, .null, .int k2, .int k3]) (n := 4) (Nat.le_of_ble_eq_true rfl)
  rw [lg_entry_eq]
  generalize (lg_sl ([.ref oa, .null, .int k2, .int k3]) ++ List.replicate (4 - (lg_sl ([.ref oa, .null, .int k2, .int k3])).length) Slot.unset).toArray = ls at hl ⊢
  refine W.nameQ (fun Q hQ => ?_)
  refine W.nameR (fun R hR => ?_)
  have hRf : 1 ≤ R.frames := by rw [hR]; exact Nat.le_of_ble_eq_true rfl
  have hRl : 20 ≤ R.locals := by rw [hR]; exact Nat.le_of_ble_eq_true rfl
  have hRc : 0 ≤ R.cells := by rw [hR]; exact Nat.le_of_ble_eq_true rfl
  have hRs : 0 ≤ R.slots := by rw [hR]; exact Nat.le_of_ble_eq_true rfl
  have hF : fr K L [1, 56, 57, 63] M M := fr.rf
  have hT1 : fT 1 K L [3] M M := fT.rf
  have hl : lv_has ls 4 [(0, .ref oa), (1, .null), (2, .int k2), (3, .int k3)] := hl
  refine lv_aload_n hx hb dX1_append_0 rfl (lv_at hl 0 rfl) ?_
  obtain ⟨n1, v1_0, v1_1, v1_2, v1_3, hM1, h1_0, h1_1, h1_2, h1_3, y1_0⟩ := hW.open_1 ia
  have hPc : va_P D vwCl ([] ++ va_pl L M) s.heap := hP
  have hDc : va_D A ([] ++ va_pl L M) := hD
  have hFc : ∀ q, va_A ([] ++ va_pl L M) s.heap.size q → A q := pg_free hDc hS hA
  refine va_calli (va_runV (As := []) (rest := []) ⟨hx, hb, hml, hown, hg⟩ (s_X1_isFull l D cy K L M s.heap.size oa n1 v1_0 v1_1 v1_2 v1_3 hW ia hM1 h1_0 h1_1 h1_2 h1_3 y1_0) (cwV 0 hg (gV wd_120 wd_121 wd_122 wd_123 wd_124) rfl rfl rfl (by decide +kernel) ⟨(Nat.le_trans (Nat.le_of_ble_eq_true rfl) hRf), (Nat.le_trans (Nat.le_of_ble_eq_true rfl) hRl)⟩) ⟨PG.blind, pg_recv hK hP ia.1 hM1 rfl, fun U hU hW => ⟨rfl, PG.at hPc hK hDc hN hU hW⟩⟩ rfl rfl hl.1 rfl (lv_room (Nat.le_of_ble_eq_true rfl)) dX1_append_1 ⟨(Nat.le_trans (Nat.le_of_ble_eq_true rfl) hRc), (Nat.le_trans (Nat.le_of_ble_eq_true rfl) hRs)⟩) hS (fun q _ h => hFc q h) hFc (fun r_3 M_4 t H_2 locs ht hvm hw hB hz1 hk1 hS => ?_)
  have hp_5 := hw
  obtain ⟨hP1, hD1⟩ := hB
  rw [ht] at hP1
  have hP : va_P D vwCl ([] ++ va_pl L M) H_2 := hP1
  have hD : va_D A ([] ++ va_pl L M) := hD1.mono hFc
  rcases hp_5 with rfl | ⟨rfl, c_6⟩
  · have hz := rfl (a := 0)
    refine lv_if_ne (tgt := 47) hx hb dX1_append_4 (by decide) (fun _ => ?_) (fun c_7 => absurd c_7 (by decide))
    rw [hQ]
    exact W.vret hx hb hr (fun t ht hW9 => ⟨⟨M, rfl, ⟨hW, hF, hT1, trivial⟩, ⟨by rw [ht]; exact hP, hD⟩⟩, hS.F ht⟩) hS.2.2 dX1_append_47
  · have hz := rfl (a := 0)
    refine lv_if_ne (tgt := 47) hx hb dX1_append_4 (by decide) (fun c_8 => absurd c_8 (by decide)) (fun _ => ?_)
    refine lv_aload_n hx hb dX1_append_7 rfl (lv_at hl 0 rfl) ?_
    refine pg_get (D := D) (ci := 1) (v := .ref v1_0) (C := RX1) (T := TX1) (N := 4) hx hb hg inG1 hown hK hP ia.1 hM1 rfl 0 (by decide) (hg _ wd_125) (fun _ h9 => h9) rfl dX1_append_8 ?_
    refine lv_aload_n hx hb dX1_append_11 rfl (lv_at hl 0 rfl) ?_
    refine pg_get (D := D) (ci := 1) (v := .int (nI v1_3)) (C := RX1) (T := TX1) (N := 4) hx hb hg inG1 hown hK hP ia.1 hM1 rfl 3 (by decide) (hg _ wd_118) (fun _ h9 => h9) rfl dX1_append_12 ?_
    refine lv_aload_nN hx hb dX1_append_15 rfl (lv_at hl 1 rfl) ?_
    obtain ⟨f9, hM9, hf9⟩ := hW.open_63 h1_0
    refine pg_astqN hx hb hK hP hD hS h1_0.1 8 hM9 rfl (inbN v1_3 n1 (by omega) (by omega)) dX1_append_16 (fun H_10 locs hP hD hS => ?_)
    obtain ⟨M_11, eM_11⟩ : ∃ M1 : Hp, M1 = va_up M v1_0 (.inl (cy 22, n1, .inr (.inr (.inr (.inr (va_up f9 ((nI v1_3) : Int32).toNatClampNeg none)))))) := ⟨_, rfl⟩
    have hP : va_P D vwCl ([] ++ va_pl L M_11) H_10 := by rw [eM_11]; exact hP
    have hD : va_D A ([] ++ va_pl L M_11) := by rw [eM_11]; exact hD
    have hW : WOK cy K L M_11 := by rw [eM_11]; exact hW.up_63 h1_0 ⟨_, rfl, (upN0 hf9)⟩
    have hF : fr K L [1, 56, 57, 63] M M_11 := by rw [eM_11]; exact hF.up h1_0 (by decide)
    have hT1 : fT 1 K L [3] M M_11 := by rw [eM_11]; exact hT1.ne h1_0 (by decide)
    have hM_12 : M_11 v1_0 = .inl (cy 22, n1, .inr (.inr (.inr (.inr (va_up f9 ((nI v1_3) : Int32).toNatClampNeg none))))) := by rw [eM_11]; exact va_up_self _ _ _
    have hM_13 : M_11 oa = .inr (1, [.ref v1_0, .ref v1_1, .ref v1_2, .int (nI v1_3)]) := by rw [eM_11, va_up_ne _ _ (ia.neT h1_0 (by decide))]; exact hM1
    have hf_15 : ∀ j, j < n1 → iskN K L ((va_up f9 ((nI v1_3) : Int32).toNatClampNeg none) j) 9 0 := (upN0 hf9)
    obtain ⟨f_14, ef_14⟩ : ∃ f : Nat → Option Nat, f = va_up f9 ((nI v1_3) : Int32).toNatClampNeg none := ⟨_, rfl⟩
    rw [← ef_14] at hM_12 hf_15
    clear ef_14
    refine lv_aload_n hx hb dX1_append_17 rfl (lv_at hl 0 rfl) ?_
    refine pg_get (D := D) (ci := 1) (v := .ref v1_1) (C := RX1) (T := TX1) (N := 4) hx hb hg inG1 hown hK hP ia.1 hM_13 rfl 1 (by decide) (hg _ wd_119) (fun _ h9 => h9) rfl dX1_append_18 ?_
    refine lv_aload_n hx hb dX1_append_21 rfl (lv_at hl 0 rfl) ?_
    refine pg_get (D := D) (ci := 1) (v := .int (nI v1_3)) (C := RX1) (T := TX1) (N := 4) hx hb hg inG1 hown hK hP ia.1 hM_13 rfl 3 (by decide) (hg _ wd_118) (fun _ h9 => h9) rfl dX1_append_22 ?_
    refine lv_iload_n hx hb dX1_append_25 rfl (lv_at hl 2 rfl) ?_
    obtain ⟨f16, hM16⟩ := hW.open_56 h1_1
    refine pg_iast hx hb hK hP hD hS h1_1.1 0 hM16 rfl (inbN v1_3 n1 (by omega) (by omega)) dX1_append_26 (fun H_17 locs hP hD hS => ?_)
    obtain ⟨M_18, eM_18⟩ : ∃ M1 : Hp, M1 = va_up M_11 v1_1 (.inl (cy 14, n1, .inl (upd f16 ((nI v1_3) : Int32).toNatClampNeg k2))) := ⟨_, rfl⟩
    have hP : va_P D vwCl ([] ++ va_pl L M_18) H_17 := by rw [eM_18]; exact hP
    have hD : va_D A ([] ++ va_pl L M_18) := by rw [eM_18]; exact hD
    have hW : WOK cy K L M_18 := by rw [eM_18]; exact hW.up_56 h1_1 ⟨_, rfl⟩
    have hF : fr K L [1, 56, 57, 63] M M_18 := by rw [eM_18]; exact hF.up h1_1 (by decide)
    have hT1 : fT 1 K L [3] M M_18 := by rw [eM_18]; exact hT1.ne h1_1 (by decide)
    have hM_19 : M_18 v1_1 = .inl (cy 14, n1, .inl (upd f16 ((nI v1_3) : Int32).toNatClampNeg k2)) := by rw [eM_18]; exact va_up_self _ _ _
    have hM_20 : M_18 v1_0 = .inl (cy 22, n1, .inr (.inr (.inr (.inr (f_14))))) := by rw [eM_18, va_up_ne _ _ (h1_0.neT h1_1 (by decide))]; exact hM_12
    have hM_21 : M_18 oa = .inr (1, [.ref v1_0, .ref v1_1, .ref v1_2, .int (nI v1_3)]) := by rw [eM_18, va_up_ne _ _ (ia.neT h1_1 (by decide))]; exact hM_13
    obtain ⟨f_22, ef_22⟩ : ∃ f : Nat → Int32, f = upd f16 ((nI v1_3) : Int32).toNatClampNeg k2 := ⟨_, rfl⟩
    rw [← ef_22] at hM_19
    clear ef_22
    refine lv_aload_n hx hb dX1_append_27 rfl (lv_at hl 0 rfl) ?_
    refine pg_get (D := D) (ci := 1) (v := .ref v1_2) (C := RX1) (T := TX1) (N := 4) hx hb hg inG1 hown hK hP ia.1 hM_21 rfl 2 (by decide) (hg _ wd_126) (fun _ h9 => h9) rfl dX1_append_28 ?_
    refine lv_aload_n hx hb dX1_append_31 rfl (lv_at hl 0 rfl) ?_
    refine pg_get (D := D) (ci := 1) (v := .int (nI v1_3)) (C := RX1) (T := TX1) (N := 4) hx hb hg inG1 hown hK hP ia.1 hM_21 rfl 3 (by decide) (hg _ wd_118) (fun _ h9 => h9) rfl dX1_append_32 ?_
    refine lv_iload_n hx hb dX1_append_35 rfl (lv_at hl 3 rfl) ?_
    obtain ⟨f23, hM23⟩ := hW.open_57 h1_2
    refine pg_iast hx hb hK hP hD hS h1_2.1 0 hM23 rfl (inbN v1_3 n1 (by omega) (by omega)) dX1_append_36 (fun H_24 locs hP hD hS => ?_)
    obtain ⟨M_25, eM_25⟩ : ∃ M1 : Hp, M1 = va_up M_18 v1_2 (.inl (cy 14, n1, .inl (upd f23 ((nI v1_3) : Int32).toNatClampNeg k3))) := ⟨_, rfl⟩
    have hP : va_P D vwCl ([] ++ va_pl L M_25) H_24 := by rw [eM_25]; exact hP
    have hD : va_D A ([] ++ va_pl L M_25) := by rw [eM_25]; exact hD
    have hW : WOK cy K L M_25 := by rw [eM_25]; exact hW.up_57 h1_2 ⟨_, rfl⟩
    have hF : fr K L [1, 56, 57, 63] M M_25 := by rw [eM_25]; exact hF.up h1_2 (by decide)
    have hT1 : fT 1 K L [3] M M_25 := by rw [eM_25]; exact hT1.ne h1_2 (by decide)
    have hM_26 : M_25 v1_2 = .inl (cy 14, n1, .inl (upd f23 ((nI v1_3) : Int32).toNatClampNeg k3)) := by rw [eM_25]; exact va_up_self _ _ _
    have hM_27 : M_25 v1_1 = .inl (cy 14, n1, .inl (f_22)) := by rw [eM_25, va_up_ne _ _ (h1_1.neT h1_2 (by decide))]; exact hM_19
    have hM_28 : M_25 v1_0 = .inl (cy 22, n1, .inr (.inr (.inr (.inr (f_14))))) := by rw [eM_25, va_up_ne _ _ (h1_0.neT h1_2 (by decide))]; exact hM_20
    have hM_29 : M_25 oa = .inr (1, [.ref v1_0, .ref v1_1, .ref v1_2, .int (nI v1_3)]) := by rw [eM_25, va_up_ne _ _ (ia.neT h1_2 (by decide))]; exact hM_21
    obtain ⟨f_30, ef_30⟩ : ∃ f : Nat → Int32, f = upd f23 ((nI v1_3) : Int32).toNatClampNeg k3 := ⟨_, rfl⟩
    rw [← ef_30] at hM_26
    clear ef_30
    refine lv_aload_n hx hb dX1_append_37 rfl (lv_at hl 0 rfl) ?_
    refine lv_dup hx hb dX1_append_38 rfl ?_
    refine pg_get (D := D) (ci := 1) (v := .int (nI v1_3)) (C := RX1) (T := TX1) (N := 4) hx hb hg inG1 hown hK hP ia.1 hM_29 rfl 3 (by decide) (hg _ wd_118) (fun _ h9 => h9) rfl dX1_append_39 ?_
    refine lv_iconst (v := 1) hx hb dX1_append_42 (by decide) ?_
    refine lv_iadd hx hb dX1_append_43 ?_
    refine lv_topi (fun f_31 ef_31 => ?_)
    obtain rfl : f_31 = (nI (v1_3 + 1)) := ef_31.trans (nI_add v1_3 1)
    refine pg_put (D := D) (ci := 1) (v := .int (nI (v1_3 + 1))) (ty := .int) (C := RX1) (T := TX1) (N := 4) hx hb hg inG1 tyX1 tyX1_ok nmX1 hown hK hP hD hS ia.1 hM_29 rfl 3 (by decide) (hg _ wd_118) (fun _ h9 => h9) rfl (by decide +kernel) rfl rfl (Nat.le_of_ble_eq_true rfl) dX1_append_44 (fun H_32 locs hP hD hS => ?_)
    obtain ⟨M_33, eM_33⟩ : ∃ M1 : Hp, M1 = va_up M_25 oa (.inr (1, [.ref v1_0, .ref v1_1, .ref v1_2, .int (nI (v1_3 + 1))])) := ⟨_, rfl⟩
    have hP : va_P D vwCl ([] ++ va_pl L M_33) H_32 := by rw [eM_33]; exact hP
    have hD : va_D A ([] ++ va_pl L M_33) := by rw [eM_33]; exact hD
    have hW : WOK cy K L M_33 := by rw [eM_33]; exact hW.up_1 ia ⟨n1, v1_0, v1_1, v1_2, (v1_3 + 1), rfl, h1_0, h1_1, h1_2, (by omega), y1_0⟩
    have hF : fr K L [1, 56, 57, 63] M M_33 := by rw [eM_33]; exact hF.up ia (by decide)
    have hT1 : fT 1 K L [3] M M_33 := by rw [eM_33]; exact hT1.up (i := 3) hM_29 rfl (by decide)
    have hM_34 : M_33 oa = .inr (1, [.ref v1_0, .ref v1_1, .ref v1_2, .int (nI (v1_3 + 1))]) := by rw [eM_33]; exact va_up_self _ _ _
    have hM_35 : M_33 v1_2 = .inl (cy 14, n1, .inl (f_30)) := by rw [eM_33, va_up_ne _ _ (h1_2.neT ia (by decide))]; exact hM_26
    have hM_36 : M_33 v1_1 = .inl (cy 14, n1, .inl (f_22)) := by rw [eM_33, va_up_ne _ _ (h1_1.neT ia (by decide))]; exact hM_27
    have hM_37 : M_33 v1_0 = .inl (cy 22, n1, .inr (.inr (.inr (.inr (f_14))))) := by rw [eM_33, va_up_ne _ _ (h1_0.neT ia (by decide))]; exact hM_28
    have hb_38 : (v1_3 + 1) ≤ n1 := by omega
    rw [hQ]
    exact W.vret hx hb hr (fun t ht hW9 => ⟨⟨M_33, rfl, ⟨hW, hF, hT1, trivial⟩, ⟨by rw [ht]; exact hP, hD⟩⟩, hS.F ht⟩) hS.2.2 dX1_append_47
set_option maxHeartbeats 4000000 in
set_option maxRecDepth 100000 in
theorem s_X1_append_s (l : Launch) (D : va_G) (cy : Nat → ClassId) (K : Kp) (L : List Nat) (M : Hp) (sz : Nat) (oa : Nat) (k1 : Nat) (k2 : Int32) (k3 : Int32) (hW : WOK cy K L M) (ia : isk K L oa 1 0) (ik1 : isk K L k1 9 0) : Met l yX1_append (wsM yX1_append cX1_append 4 none) ({ frames := 1, cells := 0, slots := 0, locals := 20 }) (va_Pc [.ref oa, .ref k1, .int k2, .int k3] (PG D cy [] L M sz)) (va_Qv (fun (M9 : Hp) => WOK cy K L M9 ∧ fr K L [1, 56, 57, 63] M M9 ∧ fT 1 K L [3] M M9 ∧ (True)) (fun M9 t => PQ D [] L M9 (va_A ([] ++ va_pl L M) sz) t) (va_A ([] ++ va_pl L M) sz)) 0 0 (va_A ([] ++ va_pl L M) sz) := by
  refine Met.ofW (cc := cX1_append) (maxL := 4) (ret := none) (by decide) rfl ?_
  intro p e s m args below meth c s₁ B hml hv
  obtain ⟨rfl, hsz, hP, hK, hD0, hN⟩ := hv
  have hx := B.exec
  have hb := B.bytes
  have hr := B.returns
  have hts := atoms_spec (ws := (wsM yX1_append cX1_append 4 none)) B.pre
  have hg : ∀ w ∈ lw_good, w.before _ s = true := fun w h => hts w (List.mem_cons_of_mem _ h)
  have hown : s.vm.findClass RX1 = some m.cls := findClass_of_methodNamed B.named
  have hlocks := B.notSynchronized
  subst hsz
  have hD := hD0.self (sz := s.heap.size)
  generalize hAe : va_A ([] ++ va_pl L M) s.heap.size = A at hD ⊢
  have hA : ∀ q : Nat, s.heap.size ≤ q → A q := fun q h => by rw [← hAe]; exact Or.inr h
  have hS : va_S A s.heap s.heap [] := va_S.rf
  have hl := lv_entry ([.ref oa, .ref k1, .int k2, .int k3]) (n := 4) (Nat.le_of_ble_eq_true rfl)
  rw [lg_entry_eq]
  generalize (lg_sl ([.ref oa, .ref k1, .int k2, .int k3]) ++ List.replicate (4 - (lg_sl ([.ref oa, .ref k1, .int k2, .int k3])).length) Slot.unset).toArray = ls at hl ⊢
  refine W.nameQ (fun Q hQ => ?_)
  refine W.nameR (fun R hR => ?_)
  have hRf : 1 ≤ R.frames := by rw [hR]; exact Nat.le_of_ble_eq_true rfl
  have hRl : 20 ≤ R.locals := by rw [hR]; exact Nat.le_of_ble_eq_true rfl
  have hRc : 0 ≤ R.cells := by rw [hR]; exact Nat.le_of_ble_eq_true rfl
  have hRs : 0 ≤ R.slots := by rw [hR]; exact Nat.le_of_ble_eq_true rfl
  have hF : fr K L [1, 56, 57, 63] M M := fr.rf
  have hT1 : fT 1 K L [3] M M := fT.rf
  have hl : lv_has ls 4 [(0, .ref oa), (1, .ref k1), (2, .int k2), (3, .int k3)] := hl
  refine lv_aload_n hx hb dX1_append_0 rfl (lv_at hl 0 rfl) ?_
  obtain ⟨n1, v1_0, v1_1, v1_2, v1_3, hM1, h1_0, h1_1, h1_2, h1_3, y1_0⟩ := hW.open_1 ia
  have hPc : va_P D vwCl ([] ++ va_pl L M) s.heap := hP
  have hDc : va_D A ([] ++ va_pl L M) := hD
  have hFc : ∀ q, va_A ([] ++ va_pl L M) s.heap.size q → A q := pg_free hDc hS hA
  refine va_calli (va_runV (As := []) (rest := []) ⟨hx, hb, hml, hown, hg⟩ (s_X1_isFull l D cy K L M s.heap.size oa n1 v1_0 v1_1 v1_2 v1_3 hW ia hM1 h1_0 h1_1 h1_2 h1_3 y1_0) (cwV 0 hg (gV wd_120 wd_121 wd_122 wd_123 wd_124) rfl rfl rfl (by decide +kernel) ⟨(Nat.le_trans (Nat.le_of_ble_eq_true rfl) hRf), (Nat.le_trans (Nat.le_of_ble_eq_true rfl) hRl)⟩) ⟨PG.blind, pg_recv hK hP ia.1 hM1 rfl, fun U hU hW => ⟨rfl, PG.at hPc hK hDc hN hU hW⟩⟩ rfl rfl hl.1 rfl (lv_room (Nat.le_of_ble_eq_true rfl)) dX1_append_1 ⟨(Nat.le_trans (Nat.le_of_ble_eq_true rfl) hRc), (Nat.le_trans (Nat.le_of_ble_eq_true rfl) hRs)⟩) hS (fun q _ h => hFc q h) hFc (fun r_3 M_4 t H_2 locs ht hvm hw hB hz1 hk1 hS => ?_)
  have hp_5 := hw
  obtain ⟨hP1, hD1⟩ := hB
  rw [ht] at hP1
  have hP : va_P D vwCl ([] ++ va_pl L M) H_2 := hP1
  have hD : va_D A ([] ++ va_pl L M) := hD1.mono hFc
  rcases hp_5 with rfl | ⟨rfl, c_6⟩
  · have hz := rfl (a := 0)
    refine lv_if_ne (tgt := 47) hx hb dX1_append_4 (by decide) (fun _ => ?_) (fun c_7 => absurd c_7 (by decide))
    rw [hQ]
    exact W.vret hx hb hr (fun t ht hW9 => ⟨⟨M, rfl, ⟨hW, hF, hT1, trivial⟩, ⟨by rw [ht]; exact hP, hD⟩⟩, hS.F ht⟩) hS.2.2 dX1_append_47
  · have hz := rfl (a := 0)
    refine lv_if_ne (tgt := 47) hx hb dX1_append_4 (by decide) (fun c_8 => absurd c_8 (by decide)) (fun _ => ?_)
    refine lv_aload_n hx hb dX1_append_7 rfl (lv_at hl 0 rfl) ?_
    refine pg_get (D := D) (ci := 1) (v := .ref v1_0) (C := RX1) (T := TX1) (N := 4) hx hb hg inG1 hown hK hP ia.1 hM1 rfl 0 (by decide) (hg _ wd_125) (fun _ h9 => h9) rfl dX1_append_8 ?_
    refine lv_aload_n hx hb dX1_append_11 rfl (lv_at hl 0 rfl) ?_
    refine pg_get (D := D) (ci := 1) (v := .int (nI v1_3)) (C := RX1) (T := TX1) (N := 4) hx hb hg inG1 hown hK hP ia.1 hM1 rfl 3 (by decide) (hg _ wd_118) (fun _ h9 => h9) rfl dX1_append_12 ?_
    refine lv_aload_n hx hb dX1_append_15 rfl (lv_at hl 1 rfl) ?_
    obtain ⟨f9, hM9, hf9⟩ := hW.open_63 h1_0
    obtain ⟨v11_0, v11_1, v11_2, v11_3, v11_4, v11_5, v11_6, v11_7, v11_8, v11_9, v11_10, v11_11, v11_12, v11_13, v11_14, v11_15, hM11, h11_0, h11_1, h11_4, h11_8⟩ := hW.open_9 ik1
    refine pg_astq (r := (RX9, TX9, 16)) hx hb hK hP hD hS h1_0.1 8 9 hM9 rfl ik1.1 hM11 rfl (inbN v1_3 n1 (by omega) (by omega)) dX1_append_16 (fun H_10 locs hP hD hS => ?_)
    obtain ⟨M_12, eM_12⟩ : ∃ M1 : Hp, M1 = va_up M v1_0 (.inl (cy 22, n1, .inr (.inr (.inr (.inr (va_up f9 ((nI v1_3) : Int32).toNatClampNeg (some k1))))))) := ⟨_, rfl⟩
    have hP : va_P D vwCl ([] ++ va_pl L M_12) H_10 := by rw [eM_12]; exact hP
    have hD : va_D A ([] ++ va_pl L M_12) := by rw [eM_12]; exact hD
    have hW : WOK cy K L M_12 := by rw [eM_12]; exact hW.up_63 h1_0 ⟨_, rfl, (upN hf9 ik1)⟩
    have hF : fr K L [1, 56, 57, 63] M M_12 := by rw [eM_12]; exact hF.up h1_0 (by decide)
    have hT1 : fT 1 K L [3] M M_12 := by rw [eM_12]; exact hT1.ne h1_0 (by decide)
    have hM_13 : M_12 v1_0 = .inl (cy 22, n1, .inr (.inr (.inr (.inr (va_up f9 ((nI v1_3) : Int32).toNatClampNeg (some k1)))))) := by rw [eM_12]; exact va_up_self _ _ _
    have hM_14 : M_12 oa = .inr (1, [.ref v1_0, .ref v1_1, .ref v1_2, .int (nI v1_3)]) := by rw [eM_12, va_up_ne _ _ (ia.neT h1_0 (by decide))]; exact hM1
    have hM_15 : M_12 k1 = .inr (9, [.int (nI v11_0), .ref v11_1, .int v11_2, .int v11_3, .int v11_4, .int v11_5, .int v11_6, .int v11_7, va_rf v11_8, .long v11_9, .long v11_10, .long v11_11, .long v11_12, .long v11_13, .long v11_14, .long v11_15]) := by rw [eM_12, va_up_ne _ _ (ik1.neT h1_0 (by decide))]; exact hM11
    have hf_17 : ∀ j, j < n1 → iskN K L ((va_up f9 ((nI v1_3) : Int32).toNatClampNeg (some k1)) j) 9 0 := (upN hf9 ik1)
    obtain ⟨f_16, ef_16⟩ : ∃ f : Nat → Option Nat, f = va_up f9 ((nI v1_3) : Int32).toNatClampNeg (some k1) := ⟨_, rfl⟩
    rw [← ef_16] at hM_13 hf_17
    have hk_18 : f_16 ((nI v1_3) : Int32).toNatClampNeg = some k1 := by rw [ef_16]; exact va_up_self _ _ _
    clear ef_16
    refine lv_aload_n hx hb dX1_append_17 rfl (lv_at hl 0 rfl) ?_
    refine pg_get (D := D) (ci := 1) (v := .ref v1_1) (C := RX1) (T := TX1) (N := 4) hx hb hg inG1 hown hK hP ia.1 hM_14 rfl 1 (by decide) (hg _ wd_119) (fun _ h9 => h9) rfl dX1_append_18 ?_
    refine lv_aload_n hx hb dX1_append_21 rfl (lv_at hl 0 rfl) ?_
    refine pg_get (D := D) (ci := 1) (v := .int (nI v1_3)) (C := RX1) (T := TX1) (N := 4) hx hb hg inG1 hown hK hP ia.1 hM_14 rfl 3 (by decide) (hg _ wd_118) (fun _ h9 => h9) rfl dX1_append_22 ?_
    refine lv_iload_n hx hb dX1_append_25 rfl (lv_at hl 2 rfl) ?_
    obtain ⟨f19, hM19⟩ := hW.open_56 h1_1
    refine pg_iast hx hb hK hP hD hS h1_1.1 0 hM19 rfl (inbN v1_3 n1 (by omega) (by omega)) dX1_append_26 (fun H_20 locs hP hD hS => ?_)
    obtain ⟨M_21, eM_21⟩ : ∃ M1 : Hp, M1 = va_up M_12 v1_1 (.inl (cy 14, n1, .inl (upd f19 ((nI v1_3) : Int32).toNatClampNeg k2))) := ⟨_, rfl⟩
    have hP : va_P D vwCl ([] ++ va_pl L M_21) H_20 := by rw [eM_21]; exact hP
    have hD : va_D A ([] ++ va_pl L M_21) := by rw [eM_21]; exact hD
    have hW : WOK cy K L M_21 := by rw [eM_21]; exact hW.up_56 h1_1 ⟨_, rfl⟩
    have hF : fr K L [1, 56, 57, 63] M M_21 := by rw [eM_21]; exact hF.up h1_1 (by decide)
    have hT1 : fT 1 K L [3] M M_21 := by rw [eM_21]; exact hT1.ne h1_1 (by decide)
    have hM_22 : M_21 v1_1 = .inl (cy 14, n1, .inl (upd f19 ((nI v1_3) : Int32).toNatClampNeg k2)) := by rw [eM_21]; exact va_up_self _ _ _
    have hM_23 : M_21 v1_0 = .inl (cy 22, n1, .inr (.inr (.inr (.inr (f_16))))) := by rw [eM_21, va_up_ne _ _ (h1_0.neT h1_1 (by decide))]; exact hM_13
    have hM_24 : M_21 oa = .inr (1, [.ref v1_0, .ref v1_1, .ref v1_2, .int (nI v1_3)]) := by rw [eM_21, va_up_ne _ _ (ia.neT h1_1 (by decide))]; exact hM_14
    have hM_25 : M_21 k1 = .inr (9, [.int (nI v11_0), .ref v11_1, .int v11_2, .int v11_3, .int v11_4, .int v11_5, .int v11_6, .int v11_7, va_rf v11_8, .long v11_9, .long v11_10, .long v11_11, .long v11_12, .long v11_13, .long v11_14, .long v11_15]) := by rw [eM_21, va_up_ne _ _ (ik1.neT h1_1 (by decide))]; exact hM_15
    obtain ⟨f_26, ef_26⟩ : ∃ f : Nat → Int32, f = upd f19 ((nI v1_3) : Int32).toNatClampNeg k2 := ⟨_, rfl⟩
    rw [← ef_26] at hM_22
    clear ef_26
    refine lv_aload_n hx hb dX1_append_27 rfl (lv_at hl 0 rfl) ?_
    refine pg_get (D := D) (ci := 1) (v := .ref v1_2) (C := RX1) (T := TX1) (N := 4) hx hb hg inG1 hown hK hP ia.1 hM_24 rfl 2 (by decide) (hg _ wd_126) (fun _ h9 => h9) rfl dX1_append_28 ?_
    refine lv_aload_n hx hb dX1_append_31 rfl (lv_at hl 0 rfl) ?_
    refine pg_get (D := D) (ci := 1) (v := .int (nI v1_3)) (C := RX1) (T := TX1) (N := 4) hx hb hg inG1 hown hK hP ia.1 hM_24 rfl 3 (by decide) (hg _ wd_118) (fun _ h9 => h9) rfl dX1_append_32 ?_
    refine lv_iload_n hx hb dX1_append_35 rfl (lv_at hl 3 rfl) ?_
    obtain ⟨f27, hM27⟩ := hW.open_57 h1_2
    refine pg_iast hx hb hK hP hD hS h1_2.1 0 hM27 rfl (inbN v1_3 n1 (by omega) (by omega)) dX1_append_36 (fun H_28 locs hP hD hS => ?_)
    obtain ⟨M_29, eM_29⟩ : ∃ M1 : Hp, M1 = va_up M_21 v1_2 (.inl (cy 14, n1, .inl (upd f27 ((nI v1_3) : Int32).toNatClampNeg k3))) := ⟨_, rfl⟩
    have hP : va_P D vwCl ([] ++ va_pl L M_29) H_28 := by rw [eM_29]; exact hP
    have hD : va_D A ([] ++ va_pl L M_29) := by rw [eM_29]; exact hD
    have hW : WOK cy K L M_29 := by rw [eM_29]; exact hW.up_57 h1_2 ⟨_, rfl⟩
    have hF : fr K L [1, 56, 57, 63] M M_29 := by rw [eM_29]; exact hF.up h1_2 (by decide)
    have hT1 : fT 1 K L [3] M M_29 := by rw [eM_29]; exact hT1.ne h1_2 (by decide)
    have hM_30 : M_29 v1_2 = .inl (cy 14, n1, .inl (upd f27 ((nI v1_3) : Int32).toNatClampNeg k3)) := by rw [eM_29]; exact va_up_self _ _ _
    have hM_31 : M_29 v1_1 = .inl (cy 14, n1, .inl (f_26)) := by rw [eM_29, va_up_ne _ _ (h1_1.neT h1_2 (by decide))]; exact hM_22
    have hM_32 : M_29 v1_0 = .inl (cy 22, n1, .inr (.inr (.inr (.inr (f_16))))) := by rw [eM_29, va_up_ne _ _ (h1_0.neT h1_2 (by decide))]; exact hM_23
    have hM_33 : M_29 oa = .inr (1, [.ref v1_0, .ref v1_1, .ref v1_2, .int (nI v1_3)]) := by rw [eM_29, va_up_ne _ _ (ia.neT h1_2 (by decide))]; exact hM_24
    have hM_34 : M_29 k1 = .inr (9, [.int (nI v11_0), .ref v11_1, .int v11_2, .int v11_3, .int v11_4, .int v11_5, .int v11_6, .int v11_7, va_rf v11_8, .long v11_9, .long v11_10, .long v11_11, .long v11_12, .long v11_13, .long v11_14, .long v11_15]) := by rw [eM_29, va_up_ne _ _ (ik1.neT h1_2 (by decide))]; exact hM_25
    obtain ⟨f_35, ef_35⟩ : ∃ f : Nat → Int32, f = upd f27 ((nI v1_3) : Int32).toNatClampNeg k3 := ⟨_, rfl⟩
    rw [← ef_35] at hM_30
    clear ef_35
    refine lv_aload_n hx hb dX1_append_37 rfl (lv_at hl 0 rfl) ?_
    refine lv_dup hx hb dX1_append_38 rfl ?_
    refine pg_get (D := D) (ci := 1) (v := .int (nI v1_3)) (C := RX1) (T := TX1) (N := 4) hx hb hg inG1 hown hK hP ia.1 hM_33 rfl 3 (by decide) (hg _ wd_118) (fun _ h9 => h9) rfl dX1_append_39 ?_
    refine lv_iconst (v := 1) hx hb dX1_append_42 (by decide) ?_
    refine lv_iadd hx hb dX1_append_43 ?_
    refine lv_topi (fun f_36 ef_36 => ?_)
    obtain rfl : f_36 = (nI (v1_3 + 1)) := ef_36.trans (nI_add v1_3 1)
    refine pg_put (D := D) (ci := 1) (v := .int (nI (v1_3 + 1))) (ty := .int) (C := RX1) (T := TX1) (N := 4) hx hb hg inG1 tyX1 tyX1_ok nmX1 hown hK hP hD hS ia.1 hM_33 rfl 3 (by decide) (hg _ wd_118) (fun _ h9 => h9) rfl (by decide +kernel) rfl rfl (Nat.le_of_ble_eq_true rfl) dX1_append_44 (fun H_37 locs hP hD hS => ?_)
    obtain ⟨M_38, eM_38⟩ : ∃ M1 : Hp, M1 = va_up M_29 oa (.inr (1, [.ref v1_0, .ref v1_1, .ref v1_2, .int (nI (v1_3 + 1))])) := ⟨_, rfl⟩
    have hP : va_P D vwCl ([] ++ va_pl L M_38) H_37 := by rw [eM_38]; exact hP
    have hD : va_D A ([] ++ va_pl L M_38) := by rw [eM_38]; exact hD
    have hW : WOK cy K L M_38 := by rw [eM_38]; exact hW.up_1 ia ⟨n1, v1_0, v1_1, v1_2, (v1_3 + 1), rfl, h1_0, h1_1, h1_2, (by omega), y1_0⟩
    have hF : fr K L [1, 56, 57, 63] M M_38 := by rw [eM_38]; exact hF.up ia (by decide)
    have hT1 : fT 1 K L [3] M M_38 := by rw [eM_38]; exact hT1.up (i := 3) hM_33 rfl (by decide)
    have hM_39 : M_38 oa = .inr (1, [.ref v1_0, .ref v1_1, .ref v1_2, .int (nI (v1_3 + 1))]) := by rw [eM_38]; exact va_up_self _ _ _
    have hM_40 : M_38 v1_2 = .inl (cy 14, n1, .inl (f_35)) := by rw [eM_38, va_up_ne _ _ (h1_2.neT ia (by decide))]; exact hM_30
    have hM_41 : M_38 v1_1 = .inl (cy 14, n1, .inl (f_26)) := by rw [eM_38, va_up_ne _ _ (h1_1.neT ia (by decide))]; exact hM_31
    have hM_42 : M_38 v1_0 = .inl (cy 22, n1, .inr (.inr (.inr (.inr (f_16))))) := by rw [eM_38, va_up_ne _ _ (h1_0.neT ia (by decide))]; exact hM_32
    have hM_43 : M_38 k1 = .inr (9, [.int (nI v11_0), .ref v11_1, .int v11_2, .int v11_3, .int v11_4, .int v11_5, .int v11_6, .int v11_7, va_rf v11_8, .long v11_9, .long v11_10, .long v11_11, .long v11_12, .long v11_13, .long v11_14, .long v11_15]) := by rw [eM_38, va_up_ne _ _ (ik1.neT ia (by decide))]; exact hM_34
    have hb_44 : (v1_3 + 1) ≤ n1 := by omega
    rw [hQ]
    exact W.vret hx hb hr (fun t ht hW9 => ⟨⟨M_38, rfl, ⟨hW, hF, hT1, trivial⟩, ⟨by rw [ht]; exact hP, hD⟩⟩, hS.F ht⟩) hS.2.2 dX1_append_47
set_option maxHeartbeats 4000000 in
set_option maxRecDepth 100000 in
theorem s_X1_dropLatest (l : Launch) (D : va_G) (cy : Nat → ClassId) (K : Kp) (L : List Nat) (M : Hp) (sz : Nat) (oa : Nat) (hW : WOK cy K L M) (ia : isk K L oa 1 0) : Met l yX1_dropLatest (wsM yX1_dropLatest cX1_dropLatest 1 none) ({ frames := 0, cells := 0, slots := 0, locals := 0 }) (va_Pc [.ref oa] (PG D cy [] L M sz)) (va_Qv (fun (M9 : Hp) => WOK cy K L M9 ∧ fr K L [1] M M9 ∧ fT 1 K L [3] M M9 ∧ (True)) (fun M9 t => PQ D [] L M9 (va_A ([] ++ va_pl L M) sz) t) (va_A ([] ++ va_pl L M) sz)) 0 0 (va_A ([] ++ va_pl L M) sz) := by
  refine Met.ofW (cc := cX1_dropLatest) (maxL := 1) (ret := none) (by decide) rfl ?_
  intro p e s m args below meth c s₁ B hml hv
  obtain ⟨rfl, hsz, hP, hK, hD0, hN⟩ := hv
  have hx := B.exec
  have hb := B.bytes
  have hr := B.returns
  have hts := atoms_spec (ws := (wsM yX1_dropLatest cX1_dropLatest 1 none)) B.pre
  have hg : ∀ w ∈ lw_good, w.before _ s = true := fun w h => hts w (List.mem_cons_of_mem _ h)
  have hown : s.vm.findClass RX1 = some m.cls := findClass_of_methodNamed B.named
  have hlocks := B.notSynchronized
  subst hsz
  have hD := hD0.self (sz := s.heap.size)
  generalize hAe : va_A ([] ++ va_pl L M) s.heap.size = A at hD ⊢
  have hA : ∀ q : Nat, s.heap.size ≤ q → A q := fun q h => by rw [← hAe]; exact Or.inr h
  have hS : va_S A s.heap s.heap [] := va_S.rf
  have hl := lv_entry ([.ref oa]) (n := 1) (Nat.le_of_ble_eq_true rfl)
  rw [lg_entry_eq]
  generalize (lg_sl ([.ref oa]) ++ List.replicate (1 - (lg_sl ([.ref oa])).length) Slot.unset).toArray = ls at hl ⊢
  refine W.nameQ (fun Q hQ => ?_)
  refine W.nameR (fun R hR => ?_)
  have hRf : 0 ≤ R.frames := by rw [hR]; exact Nat.le_of_ble_eq_true rfl
  have hRl : 0 ≤ R.locals := by rw [hR]; exact Nat.le_of_ble_eq_true rfl
  have hRc : 0 ≤ R.cells := by rw [hR]; exact Nat.le_of_ble_eq_true rfl
  have hRs : 0 ≤ R.slots := by rw [hR]; exact Nat.le_of_ble_eq_true rfl
  have hF : fr K L [1] M M := fr.rf
  have hT1 : fT 1 K L [3] M M := fT.rf
  have hl : lv_has ls 1 [(0, .ref oa)] := hl
  refine lv_aload_n hx hb dX1_dropLatest_0 rfl (lv_at hl 0 rfl) ?_
  obtain ⟨n1, v1_0, v1_1, v1_2, v1_3, hM1, h1_0, h1_1, h1_2, h1_3, y1_0⟩ := hW.open_1 ia
  refine pg_get (D := D) (ci := 1) (v := .int (nI v1_3)) (C := RX1) (T := TX1) (N := 4) hx hb hg inG1 hown hK hP ia.1 hM1 rfl 3 (by decide) (hg _ wd_118) (fun _ h9 => h9) rfl dX1_dropLatest_1 ?_
  refine lv_if_le (tgt := 17) hx hb dX1_dropLatest_4 (by decide) (fun c_2 => ?_) (fun c_2 => ?_)
  · have hz := rfl (a := 0)
    have n_3 : v1_3 ≤ 0 := (iLE (a := v1_3) (b := 0) (by omega) (by omega)).mp c_2
    rw [hQ]
    exact W.vret hx hb hr (fun t ht hW9 => ⟨⟨M, rfl, ⟨hW, hF, hT1, trivial⟩, ⟨by rw [ht]; exact hP, hD⟩⟩, hS.F ht⟩) hS.2.2 dX1_dropLatest_17
  · have hz := rfl (a := 0)
    have n_4 : ¬ (v1_3 ≤ 0) := fun q => c_2 ((iLE (a := v1_3) (b := 0) (by omega) (by omega)).mpr q)
    refine lv_aload_n hx hb dX1_dropLatest_7 rfl (lv_at hl 0 rfl) ?_
    refine lv_dup hx hb dX1_dropLatest_8 rfl ?_
    refine pg_get (D := D) (ci := 1) (v := .int (nI v1_3)) (C := RX1) (T := TX1) (N := 4) hx hb hg inG1 hown hK hP ia.1 hM1 rfl 3 (by decide) (hg _ wd_118) (fun _ h9 => h9) rfl dX1_dropLatest_9 ?_
    refine lv_iconst (v := 1) hx hb dX1_dropLatest_12 (by decide) ?_
    refine lv_isub hx hb dX1_dropLatest_13 ?_
    refine lv_topi (fun f_5 ef_5 => ?_)
    obtain rfl : f_5 = (nI (v1_3 - 1)) := ef_5.trans (nI_prd (by omega))
    refine pg_put (D := D) (ci := 1) (v := .int (nI (v1_3 - 1))) (ty := .int) (C := RX1) (T := TX1) (N := 4) hx hb hg inG1 tyX1 tyX1_ok nmX1 hown hK hP hD hS ia.1 hM1 rfl 3 (by decide) (hg _ wd_118) (fun _ h9 => h9) rfl (by decide +kernel) rfl rfl (Nat.le_of_ble_eq_true rfl) dX1_dropLatest_14 (fun H_6 locs hP hD hS => ?_)
    obtain ⟨M_7, eM_7⟩ : ∃ M1 : Hp, M1 = va_up M oa (.inr (1, [.ref v1_0, .ref v1_1, .ref v1_2, .int (nI (v1_3 - 1))])) := ⟨_, rfl⟩
    have hP : va_P D vwCl ([] ++ va_pl L M_7) H_6 := by rw [eM_7]; exact hP
    have hD : va_D A ([] ++ va_pl L M_7) := by rw [eM_7]; exact hD
    have hW : WOK cy K L M_7 := by rw [eM_7]; exact hW.up_1 ia ⟨n1, v1_0, v1_1, v1_2, (v1_3 - 1), rfl, h1_0, h1_1, h1_2, (by omega), y1_0⟩
    have hF : fr K L [1] M M_7 := by rw [eM_7]; exact hF.up ia (by decide)
    have hT1 : fT 1 K L [3] M M_7 := by rw [eM_7]; exact hT1.up (i := 3) hM1 rfl (by decide)
    have hM_8 : M_7 oa = .inr (1, [.ref v1_0, .ref v1_1, .ref v1_2, .int (nI (v1_3 - 1))]) := by rw [eM_7]; exact va_up_self _ _ _
    have hb_9 : (v1_3 - 1) ≤ n1 := by omega
    rw [hQ]
    exact W.vret hx hb hr (fun t ht hW9 => ⟨⟨M_7, rfl, ⟨hW, hF, hT1, trivial⟩, ⟨by rw [ht]; exact hP, hD⟩⟩, hS.F ht⟩) hS.2.2 dX1_dropLatest_17
set_option maxHeartbeats 4000000 in
set_option maxRecDepth 100000 in
theorem s_X1_bookUpTo (l : Launch) (D : va_G) (cy : Nat → ClassId) (K : Kp) (L : List Nat) (M : Hp) (sz : Nat) (oa : Nat) (k1 : Int32) (hW : WOK cy K L M) (ia : isk K L oa 1 0) : Met l yX1_bookUpTo (wsM yX1_bookUpTo cX1_bookUpTo 5 none) ({ frames := 0, cells := 0, slots := 0, locals := 0 }) (va_Pc [.ref oa, .int k1] (PG D cy [] L M sz)) (va_Qv (fun (M9 : Hp) => WOK cy K L M9 ∧ fr K L [1, 9, 56, 57, 63] M M9 ∧ fT 9 K L [9] M M9 ∧ fT 1 K L [3] M M9 ∧ (True)) (fun M9 t => PQ D [] L M9 (va_A ([] ++ va_pl L M) sz) t) (va_A ([] ++ va_pl L M) sz)) 0 0 (va_A ([] ++ va_pl L M) sz) := by
  refine Met.ofW (cc := cX1_bookUpTo) (maxL := 5) (ret := none) (by decide) rfl ?_
  intro p e s m args below meth c s₁ B hml hv
  obtain ⟨rfl, hsz, hP, hK, hD0, hN⟩ := hv
  have hx := B.exec
  have hb := B.bytes
  have hr := B.returns
  have hts := atoms_spec (ws := (wsM yX1_bookUpTo cX1_bookUpTo 5 none)) B.pre
  have hg : ∀ w ∈ lw_good, w.before _ s = true := fun w h => hts w (List.mem_cons_of_mem _ h)
  have hown : s.vm.findClass RX1 = some m.cls := findClass_of_methodNamed B.named
  have hlocks := B.notSynchronized
  subst hsz
  have hD := hD0.self (sz := s.heap.size)
  generalize hAe : va_A ([] ++ va_pl L M) s.heap.size = A at hD ⊢
  have hA : ∀ q : Nat, s.heap.size ≤ q → A q := fun q h => by rw [← hAe]; exact Or.inr h
  have hS : va_S A s.heap s.heap [] := va_S.rf
  have hl := lv_entry ([.ref oa, .int k1]) (n := 5) (Nat.le_of_ble_eq_true rfl)
  rw [lg_entry_eq]
  generalize (lg_sl ([.ref oa, .int k1]) ++ List.replicate (5 - (lg_sl ([.ref oa, .int k1])).length) Slot.unset).toArray = ls at hl ⊢
  refine W.nameQ (fun Q hQ => ?_)
  refine W.nameR (fun R hR => ?_)
  have hRf : 0 ≤ R.frames := by rw [hR]; exact Nat.le_of_ble_eq_true rfl
  have hRl : 0 ≤ R.locals := by rw [hR]; exact Nat.le_of_ble_eq_true rfl
  have hRc : 0 ≤ R.cells := by rw [hR]; exact Nat.le_of_ble_eq_true rfl
  have hRs : 0 ≤ R.slots := by rw [hR]; exact Nat.le_of_ble_eq_true rfl
  have hF : fr K L [1, 9, 56, 57, 63] M M := fr.rf
  have hT9 : fT 9 K L [9] M M := fT.rf
  have hT1 : fT 1 K L [3] M M := fT.rf
  have hl : lv_has ls 5 [(0, .ref oa), (1, .int k1)] := hl
  refine lv_iconst (v := 0) hx hb dX1_bookUpTo_0 (by decide) ?_
  refine lv_istore_n (lv' := [(2, .int 0), (0, .ref oa), (1, .int k1)]) hx hb dX1_bookUpTo_1 rfl hl (by decide) rfl (fun ls hl => ?_)
  refine lv_iconst (v := 0) hx hb dX1_bookUpTo_2 (by decide) ?_
  refine lv_istore_n (lv' := [(3, .int 0), (2, .int 0), (0, .ref oa), (1, .int k1)]) hx hb dX1_bookUpTo_3 rfl hl (by decide) rfl (fun ls hl => ?_)
  obtain ⟨n1, v1_0, v1_1, v1_2, v1_3, hM1, h1_0, h1_1, h1_2, h1_3, y1_0⟩ := hW.open_1 ia
  have key_2 : ∀ (fu_4 : Nat) (v2w5 : Nat) (v3w5 : Nat) (M_9 : Hp) (H_10 : Heap) (locs : List Loc) (ls : Array Slot), 120 - v3w5 < fu_4 → M_9 oa = .inr (1, [.ref v1_0, .ref v1_1, .ref v1_2, .int (nI v1_3)]) → v2w5 ≤ v3w5 → v3w5 ≤ 120 → v2w5 ≤ n1 → WOK cy K L M_9 → fr K L [1, 9, 56, 57, 63] M M_9 → fT 9 K L [9] M M_9 → fT 1 K L [3] M M_9 → va_P D vwCl ([] ++ va_pl L M_9) H_10 → va_D A ([] ++ va_pl L M_9) → va_S A s.heap H_10 locs → lv_has ls 5 [(3, .int (nI v3w5)), (2, .int (nI v2w5)), (0, .ref oa), (1, .int k1)] → W p l e R s m ([.ref oa, .int k1] : List Value).toArray below meth c H_10 locs 0 0 Q (F0 m 4 ls []) := by
    intro fu_4
    induction fu_4 with
    | zero => intro v2w5 v3w5 M_9 H_10 locs ls h; exact absurd h (Nat.not_lt_zero _)
    | succ fu_4 ih_3 =>
      intro v2w5 v3w5 M_9 H_10 locs ls hfu hM_11 hx_6 hx_7 hx_8 hW hF hT9 hT1 hP hD hS hl
      refine lv_iload_n hx hb dX1_bookUpTo_4 rfl (lv_at hl 0 rfl) ?_
      refine lv_aload_n hx hb dX1_bookUpTo_5 rfl (lv_at hl 2 rfl) ?_
      refine pg_get (D := D) (ci := 1) (v := .int (nI v1_3)) (C := RX1) (T := TX1) (N := 4) hx hb hg inG1 hown hK hP ia.1 hM_11 rfl 3 (by decide) (hg _ wd_118) (fun _ h9 => h9) rfl dX1_bookUpTo_6 ?_
      refine lv_icmp_ge (tgt := 96) hx hb dX1_bookUpTo_9 (by decide) (fun c_12 => ?_) (fun c_12 => ?_)
      · have hz := rfl (a := 0)
        have n_13 : v1_3 ≤ v3w5 := (iLE (a := v1_3) (b := v3w5) (by omega) (by omega)).mp c_12
        refine lv_aload_n hx hb dX1_bookUpTo_96 rfl (lv_at hl 2 rfl) ?_
        refine lv_iload_n hx hb dX1_bookUpTo_97 rfl (lv_at hl 1 rfl) ?_
        refine pg_put (D := D) (ci := 1) (v := .int (nI v2w5)) (ty := .int) (C := RX1) (T := TX1) (N := 4) hx hb hg inG1 tyX1 tyX1_ok nmX1 hown hK hP hD hS ia.1 hM_11 rfl 3 (by decide) (hg _ wd_118) (fun _ h9 => h9) rfl (by decide +kernel) rfl rfl (Nat.le_of_ble_eq_true rfl) dX1_bookUpTo_98 (fun H_14 locs hP hD hS => ?_)
        obtain ⟨M_15, eM_15⟩ : ∃ M1 : Hp, M1 = va_up M_9 oa (.inr (1, [.ref v1_0, .ref v1_1, .ref v1_2, .int (nI v2w5)])) := ⟨_, rfl⟩
        have hP : va_P D vwCl ([] ++ va_pl L M_15) H_14 := by rw [eM_15]; exact hP
        have hD : va_D A ([] ++ va_pl L M_15) := by rw [eM_15]; exact hD
        have hW : WOK cy K L M_15 := by rw [eM_15]; exact hW.up_1 ia ⟨n1, v1_0, v1_1, v1_2, v2w5, rfl, h1_0, h1_1, h1_2, (by omega), y1_0⟩
        have hF : fr K L [1, 9, 56, 57, 63] M M_15 := by rw [eM_15]; exact hF.up ia (by decide)
        have hT9 : fT 9 K L [9] M M_15 := by rw [eM_15]; exact hT9.ne ia (by decide)
        have hT1 : fT 1 K L [3] M M_15 := by rw [eM_15]; exact hT1.up (i := 3) hM_11 rfl (by decide)
        have hM_16 : M_15 oa = .inr (1, [.ref v1_0, .ref v1_1, .ref v1_2, .int (nI v2w5)]) := by rw [eM_15]; exact va_up_self _ _ _
        have hb_17 : v2w5 ≤ n1 := by omega
        rw [hQ]
        exact W.vret hx hb hr (fun t ht hW9 => ⟨⟨M_15, rfl, ⟨hW, hF, hT9, hT1, trivial⟩, ⟨by rw [ht]; exact hP, hD⟩⟩, hS.F ht⟩) hS.2.2 dX1_bookUpTo_101
      · have hz := rfl (a := 0)
        have n_18 : ¬ (v1_3 ≤ v3w5) := fun q => c_12 ((iLE (a := v1_3) (b := v3w5) (by omega) (by omega)).mpr q)
        refine lv_aload_n hx hb dX1_bookUpTo_12 rfl (lv_at hl 2 rfl) ?_
        refine pg_get (D := D) (ci := 1) (v := .ref v1_0) (C := RX1) (T := TX1) (N := 4) hx hb hg inG1 hown hK hP ia.1 hM_11 rfl 0 (by decide) (hg _ wd_125) (fun _ h9 => h9) rfl dX1_bookUpTo_13 ?_
        refine lv_iload_n hx hb dX1_bookUpTo_16 rfl (lv_at hl 0 rfl) ?_
        obtain ⟨f19, hM19, hf19⟩ := hW.open_63 h1_0
        have hi_20 : vp_in (nI v3w5) n1 := (inbN v3w5 n1 (by omega) (by omega))
        refine pg_aldq hx hb hK hP h1_0.1 8 hM19 rfl hi_20 dX1_bookUpTo_17 ?_
        obtain ⟨q_21, ho_22⟩ : ∃ q : Option Nat, q = f19 ((nI v3w5) : Int32).toNatClampNeg := ⟨_, rfl⟩
        rw [← ho_22]
        have hq_23 : iskN K L q_21 9 0 := by rw [ho_22]; exact hf19 _ (vp_lt hi_20)
        rcases q_21 with _ | bq_21
        · have hz := rfl (a := 0)
          refine lv_astoreN (lv' := [(4, .null), (3, .int (nI v3w5)), (2, .int (nI v2w5)), (0, .ref oa), (1, .int k1)]) hx hb dX1_bookUpTo_18 hl (by decide) rfl (fun ls hl => ?_)
          refine lv_aloadN hx hb dX1_bookUpTo_20 (lv_at hl 0 rfl) ?_
          refine lv_ifnullN (tgt := 55) hx hb dX1_bookUpTo_22 (by decide) ?_
          refine lv_aload_n hx hb dX1_bookUpTo_55 rfl (lv_at hl 3 rfl) ?_
          refine pg_get (D := D) (ci := 1) (v := .ref v1_0) (C := RX1) (T := TX1) (N := 4) hx hb hg inG1 hown hK hP ia.1 hM_11 rfl 0 (by decide) (hg _ wd_125) (fun _ h9 => h9) rfl dX1_bookUpTo_56 ?_
          refine lv_iload_n hx hb dX1_bookUpTo_59 rfl (lv_at hl 2 rfl) ?_
          refine lv_aloadN hx hb dX1_bookUpTo_60 (lv_at hl 0 rfl) ?_
          refine pg_astqN hx hb hK hP hD hS h1_0.1 8 hM19 rfl (inbN v2w5 n1 (by omega) (by omega)) dX1_bookUpTo_62 (fun H_25 locs hP hD hS => ?_)
          obtain ⟨M_26, eM_26⟩ : ∃ M1 : Hp, M1 = va_up M_9 v1_0 (.inl (cy 22, n1, .inr (.inr (.inr (.inr (va_up f19 ((nI v2w5) : Int32).toNatClampNeg none)))))) := ⟨_, rfl⟩
          have hP : va_P D vwCl ([] ++ va_pl L M_26) H_25 := by rw [eM_26]; exact hP
          have hD : va_D A ([] ++ va_pl L M_26) := by rw [eM_26]; exact hD
          have hW : WOK cy K L M_26 := by rw [eM_26]; exact hW.up_63 h1_0 ⟨_, rfl, (upN0 hf19)⟩
          have hF : fr K L [1, 9, 56, 57, 63] M M_26 := by rw [eM_26]; exact hF.up h1_0 (by decide)
          have hT9 : fT 9 K L [9] M M_26 := by rw [eM_26]; exact hT9.ne h1_0 (by decide)
          have hT1 : fT 1 K L [3] M M_26 := by rw [eM_26]; exact hT1.ne h1_0 (by decide)
          have hM_27 : M_26 v1_0 = .inl (cy 22, n1, .inr (.inr (.inr (.inr (va_up f19 ((nI v2w5) : Int32).toNatClampNeg none))))) := by rw [eM_26]; exact va_up_self _ _ _
          have hM_28 : M_26 oa = .inr (1, [.ref v1_0, .ref v1_1, .ref v1_2, .int (nI v1_3)]) := by rw [eM_26, va_up_ne _ _ (ia.neT h1_0 (by decide))]; exact hM_11
          have hf_30 : ∀ j, j < n1 → iskN K L ((va_up f19 ((nI v2w5) : Int32).toNatClampNeg none) j) 9 0 := (upN0 hf19)
          obtain ⟨f_29, ef_29⟩ : ∃ f : Nat → Option Nat, f = va_up f19 ((nI v2w5) : Int32).toNatClampNeg none := ⟨_, rfl⟩
          rw [← ef_29] at hM_27 hf_30
          clear ef_29
          refine lv_aload_n hx hb dX1_bookUpTo_63 rfl (lv_at hl 3 rfl) ?_
          refine pg_get (D := D) (ci := 1) (v := .ref v1_1) (C := RX1) (T := TX1) (N := 4) hx hb hg inG1 hown hK hP ia.1 hM_28 rfl 1 (by decide) (hg _ wd_119) (fun _ h9 => h9) rfl dX1_bookUpTo_64 ?_
          refine lv_iload_n hx hb dX1_bookUpTo_67 rfl (lv_at hl 2 rfl) ?_
          refine lv_aload_n hx hb dX1_bookUpTo_68 rfl (lv_at hl 3 rfl) ?_
          refine pg_get (D := D) (ci := 1) (v := .ref v1_1) (C := RX1) (T := TX1) (N := 4) hx hb hg inG1 hown hK hP ia.1 hM_28 rfl 1 (by decide) (hg _ wd_119) (fun _ h9 => h9) rfl dX1_bookUpTo_69 ?_
          refine lv_iload_n hx hb dX1_bookUpTo_72 rfl (lv_at hl 1 rfl) ?_
          obtain ⟨f31, hM31⟩ := hW.open_56 h1_1
          refine pg_iald hx hb hK hP h1_1.1 0 hM31 rfl (inbN v3w5 n1 (by omega) (by omega)) dX1_bookUpTo_73 ?_
          refine lv_topi (fun f_32 ef_32 => ?_)
          refine pg_iast hx hb hK hP hD hS h1_1.1 0 hM31 rfl (inbN v2w5 n1 (by omega) (by omega)) dX1_bookUpTo_74 (fun H_33 locs hP hD hS => ?_)
          obtain ⟨M_34, eM_34⟩ : ∃ M1 : Hp, M1 = va_up M_26 v1_1 (.inl (cy 14, n1, .inl (upd f31 ((nI v2w5) : Int32).toNatClampNeg f_32))) := ⟨_, rfl⟩
          have hP : va_P D vwCl ([] ++ va_pl L M_34) H_33 := by rw [eM_34]; exact hP
          have hD : va_D A ([] ++ va_pl L M_34) := by rw [eM_34]; exact hD
          have hW : WOK cy K L M_34 := by rw [eM_34]; exact hW.up_56 h1_1 ⟨_, rfl⟩
          have hF : fr K L [1, 9, 56, 57, 63] M M_34 := by rw [eM_34]; exact hF.up h1_1 (by decide)
          have hT9 : fT 9 K L [9] M M_34 := by rw [eM_34]; exact hT9.ne h1_1 (by decide)
          have hT1 : fT 1 K L [3] M M_34 := by rw [eM_34]; exact hT1.ne h1_1 (by decide)
          have hM_35 : M_34 v1_1 = .inl (cy 14, n1, .inl (upd f31 ((nI v2w5) : Int32).toNatClampNeg f_32)) := by rw [eM_34]; exact va_up_self _ _ _
          have hM_36 : M_34 v1_0 = .inl (cy 22, n1, .inr (.inr (.inr (.inr (f_29))))) := by rw [eM_34, va_up_ne _ _ (h1_0.neT h1_1 (by decide))]; exact hM_27
          have hM_37 : M_34 oa = .inr (1, [.ref v1_0, .ref v1_1, .ref v1_2, .int (nI v1_3)]) := by rw [eM_34, va_up_ne _ _ (ia.neT h1_1 (by decide))]; exact hM_28
          obtain ⟨f_38, ef_38⟩ : ∃ f : Nat → Int32, f = upd f31 ((nI v2w5) : Int32).toNatClampNeg f_32 := ⟨_, rfl⟩
          rw [← ef_38] at hM_35
          clear ef_38
          refine lv_aload_n hx hb dX1_bookUpTo_75 rfl (lv_at hl 3 rfl) ?_
          refine pg_get (D := D) (ci := 1) (v := .ref v1_2) (C := RX1) (T := TX1) (N := 4) hx hb hg inG1 hown hK hP ia.1 hM_37 rfl 2 (by decide) (hg _ wd_126) (fun _ h9 => h9) rfl dX1_bookUpTo_76 ?_
          refine lv_iload_n hx hb dX1_bookUpTo_79 rfl (lv_at hl 2 rfl) ?_
          refine lv_aload_n hx hb dX1_bookUpTo_80 rfl (lv_at hl 3 rfl) ?_
          refine pg_get (D := D) (ci := 1) (v := .ref v1_2) (C := RX1) (T := TX1) (N := 4) hx hb hg inG1 hown hK hP ia.1 hM_37 rfl 2 (by decide) (hg _ wd_126) (fun _ h9 => h9) rfl dX1_bookUpTo_81 ?_
          refine lv_iload_n hx hb dX1_bookUpTo_84 rfl (lv_at hl 1 rfl) ?_
          obtain ⟨f39, hM39⟩ := hW.open_57 h1_2
          refine pg_iald hx hb hK hP h1_2.1 0 hM39 rfl (inbN v3w5 n1 (by omega) (by omega)) dX1_bookUpTo_85 ?_
          refine lv_topi (fun f_40 ef_40 => ?_)
          refine pg_iast hx hb hK hP hD hS h1_2.1 0 hM39 rfl (inbN v2w5 n1 (by omega) (by omega)) dX1_bookUpTo_86 (fun H_41 locs hP hD hS => ?_)
          obtain ⟨M_42, eM_42⟩ : ∃ M1 : Hp, M1 = va_up M_34 v1_2 (.inl (cy 14, n1, .inl (upd f39 ((nI v2w5) : Int32).toNatClampNeg f_40))) := ⟨_, rfl⟩
          have hP : va_P D vwCl ([] ++ va_pl L M_42) H_41 := by rw [eM_42]; exact hP
          have hD : va_D A ([] ++ va_pl L M_42) := by rw [eM_42]; exact hD
          have hW : WOK cy K L M_42 := by rw [eM_42]; exact hW.up_57 h1_2 ⟨_, rfl⟩
          have hF : fr K L [1, 9, 56, 57, 63] M M_42 := by rw [eM_42]; exact hF.up h1_2 (by decide)
          have hT9 : fT 9 K L [9] M M_42 := by rw [eM_42]; exact hT9.ne h1_2 (by decide)
          have hT1 : fT 1 K L [3] M M_42 := by rw [eM_42]; exact hT1.ne h1_2 (by decide)
          have hM_43 : M_42 v1_2 = .inl (cy 14, n1, .inl (upd f39 ((nI v2w5) : Int32).toNatClampNeg f_40)) := by rw [eM_42]; exact va_up_self _ _ _
          have hM_44 : M_42 v1_1 = .inl (cy 14, n1, .inl (f_38)) := by rw [eM_42, va_up_ne _ _ (h1_1.neT h1_2 (by decide))]; exact hM_35
          have hM_45 : M_42 v1_0 = .inl (cy 22, n1, .inr (.inr (.inr (.inr (f_29))))) := by rw [eM_42, va_up_ne _ _ (h1_0.neT h1_2 (by decide))]; exact hM_36
          have hM_46 : M_42 oa = .inr (1, [.ref v1_0, .ref v1_1, .ref v1_2, .int (nI v1_3)]) := by rw [eM_42, va_up_ne _ _ (ia.neT h1_2 (by decide))]; exact hM_37
          obtain ⟨f_47, ef_47⟩ : ∃ f : Nat → Int32, f = upd f39 ((nI v2w5) : Int32).toNatClampNeg f_40 := ⟨_, rfl⟩
          rw [← ef_47] at hM_43
          clear ef_47
          refine lv_iinc (v := (nI (v2w5 + 1))) (lv' := [(2, .int (nI (v2w5 + 1))), (4, .null), (3, .int (nI v3w5)), (0, .ref oa), (1, .int k1)]) hx hb dX1_bookUpTo_87 hl (k := 2) rfl (nI_1 v2w5) (by decide) rfl (fun ls hl => ?_)
          refine lv_iinc (v := (nI (v3w5 + 1))) (lv' := [(3, .int (nI (v3w5 + 1))), (2, .int (nI (v2w5 + 1))), (4, .null), (0, .ref oa), (1, .int k1)]) hx hb dX1_bookUpTo_90 hl (k := 2) rfl (nI_1 v3w5) (by decide) rfl (fun ls hl => ?_)
          refine lv_goto (tgt := 4) hx hb dX1_bookUpTo_93 (by decide) ?_
          exact ih_3 (v2w5 + 1) (v3w5 + 1) M_42 H_41 _ _ (by omega) hM_46 (by omega) (by omega) (by omega) hW hF hT9 hT1 hP hD hS (lv_sub hl [0, 1, 3, 4] rfl)
        · have hb_24 := hq_23 bq_21 rfl
          refine lv_astore (lv' := [(4, .ref bq_21), (3, .int (nI v3w5)), (2, .int (nI v2w5)), (0, .ref oa), (1, .int k1)]) hx hb dX1_bookUpTo_18 hl (by decide) rfl (fun ls hl => ?_)
          refine lv_aload hx hb dX1_bookUpTo_20 (lv_at hl 0 rfl) ?_
          refine lv_ifnull hx hb dX1_bookUpTo_22 ?_
          refine lv_aload_n hx hb dX1_bookUpTo_25 rfl (lv_at hl 3 rfl) ?_
          refine pg_get (D := D) (ci := 1) (v := .ref v1_1) (C := RX1) (T := TX1) (N := 4) hx hb hg inG1 hown hK hP ia.1 hM_11 rfl 1 (by decide) (hg _ wd_119) (fun _ h9 => h9) rfl dX1_bookUpTo_26 ?_
          refine lv_iload_n hx hb dX1_bookUpTo_29 rfl (lv_at hl 1 rfl) ?_
          obtain ⟨f48, hM48⟩ := hW.open_56 h1_1
          refine pg_iald hx hb hK hP h1_1.1 0 hM48 rfl (inbN v3w5 n1 (by omega) (by omega)) dX1_bookUpTo_30 ?_
          refine lv_topi (fun f_49 ef_49 => ?_)
          refine lv_iload_n hx hb dX1_bookUpTo_31 rfl (lv_at hl 4 rfl) ?_
          refine lv_icmp_gt (tgt := 55) hx hb dX1_bookUpTo_32 (by decide) (fun c_50 => ?_) (fun c_50 => ?_)
          · have hz := rfl (a := 0)
            refine lv_aload_n hx hb dX1_bookUpTo_55 rfl (lv_at hl 3 rfl) ?_
            refine pg_get (D := D) (ci := 1) (v := .ref v1_0) (C := RX1) (T := TX1) (N := 4) hx hb hg inG1 hown hK hP ia.1 hM_11 rfl 0 (by decide) (hg _ wd_125) (fun _ h9 => h9) rfl dX1_bookUpTo_56 ?_
            refine lv_iload_n hx hb dX1_bookUpTo_59 rfl (lv_at hl 2 rfl) ?_
            refine lv_aload hx hb dX1_bookUpTo_60 (lv_at hl 0 rfl) ?_
            obtain ⟨v52_0, v52_1, v52_2, v52_3, v52_4, v52_5, v52_6, v52_7, v52_8, v52_9, v52_10, v52_11, v52_12, v52_13, v52_14, v52_15, hM52, h52_0, h52_1, h52_4, h52_8⟩ := hW.open_9 hb_24
            refine pg_astq (r := (RX9, TX9, 16)) hx hb hK hP hD hS h1_0.1 8 9 hM19 rfl hb_24.1 hM52 rfl (inbN v2w5 n1 (by omega) (by omega)) dX1_bookUpTo_62 (fun H_51 locs hP hD hS => ?_)
            obtain ⟨M_53, eM_53⟩ : ∃ M1 : Hp, M1 = va_up M_9 v1_0 (.inl (cy 22, n1, .inr (.inr (.inr (.inr (va_up f19 ((nI v2w5) : Int32).toNatClampNeg (some bq_21))))))) := ⟨_, rfl⟩
            have hP : va_P D vwCl ([] ++ va_pl L M_53) H_51 := by rw [eM_53]; exact hP
            have hD : va_D A ([] ++ va_pl L M_53) := by rw [eM_53]; exact hD
            have hW : WOK cy K L M_53 := by rw [eM_53]; exact hW.up_63 h1_0 ⟨_, rfl, (upN hf19 hb_24)⟩
            have hF : fr K L [1, 9, 56, 57, 63] M M_53 := by rw [eM_53]; exact hF.up h1_0 (by decide)
            have hT9 : fT 9 K L [9] M M_53 := by rw [eM_53]; exact hT9.ne h1_0 (by decide)
            have hT1 : fT 1 K L [3] M M_53 := by rw [eM_53]; exact hT1.ne h1_0 (by decide)
            have hM_54 : M_53 v1_0 = .inl (cy 22, n1, .inr (.inr (.inr (.inr (va_up f19 ((nI v2w5) : Int32).toNatClampNeg (some bq_21)))))) := by rw [eM_53]; exact va_up_self _ _ _
            have hM_55 : M_53 oa = .inr (1, [.ref v1_0, .ref v1_1, .ref v1_2, .int (nI v1_3)]) := by rw [eM_53, va_up_ne _ _ (ia.neT h1_0 (by decide))]; exact hM_11
            have hM_56 : M_53 v1_1 = .inl (cy 14, n1, .inl (f48)) := by rw [eM_53, va_up_ne _ _ (h1_1.neT h1_0 (by decide))]; exact hM48
            have hM_57 : M_53 bq_21 = .inr (9, [.int (nI v52_0), .ref v52_1, .int v52_2, .int v52_3, .int v52_4, .int v52_5, .int v52_6, .int v52_7, va_rf v52_8, .long v52_9, .long v52_10, .long v52_11, .long v52_12, .long v52_13, .long v52_14, .long v52_15]) := by rw [eM_53, va_up_ne _ _ (hb_24.neT h1_0 (by decide))]; exact hM52
            have hf_59 : ∀ j, j < n1 → iskN K L ((va_up f19 ((nI v2w5) : Int32).toNatClampNeg (some bq_21)) j) 9 0 := (upN hf19 hb_24)
            obtain ⟨f_58, ef_58⟩ : ∃ f : Nat → Option Nat, f = va_up f19 ((nI v2w5) : Int32).toNatClampNeg (some bq_21) := ⟨_, rfl⟩
            rw [← ef_58] at hM_54 hf_59
            have hk_60 : f_58 ((nI v2w5) : Int32).toNatClampNeg = some bq_21 := by rw [ef_58]; exact va_up_self _ _ _
            clear ef_58
            refine lv_aload_n hx hb dX1_bookUpTo_63 rfl (lv_at hl 3 rfl) ?_
            refine pg_get (D := D) (ci := 1) (v := .ref v1_1) (C := RX1) (T := TX1) (N := 4) hx hb hg inG1 hown hK hP ia.1 hM_55 rfl 1 (by decide) (hg _ wd_119) (fun _ h9 => h9) rfl dX1_bookUpTo_64 ?_
            refine lv_iload_n hx hb dX1_bookUpTo_67 rfl (lv_at hl 2 rfl) ?_
            refine lv_aload_n hx hb dX1_bookUpTo_68 rfl (lv_at hl 3 rfl) ?_
            refine pg_get (D := D) (ci := 1) (v := .ref v1_1) (C := RX1) (T := TX1) (N := 4) hx hb hg inG1 hown hK hP ia.1 hM_55 rfl 1 (by decide) (hg _ wd_119) (fun _ h9 => h9) rfl dX1_bookUpTo_69 ?_
            refine lv_iload_n hx hb dX1_bookUpTo_72 rfl (lv_at hl 1 rfl) ?_
            refine pg_iald hx hb hK hP h1_1.1 0 hM_56 rfl (inbN v3w5 n1 (by omega) (by omega)) dX1_bookUpTo_73 ?_
            refine lv_topi (fun f_61 ef_61 => ?_)
            refine pg_iast hx hb hK hP hD hS h1_1.1 0 hM_56 rfl (inbN v2w5 n1 (by omega) (by omega)) dX1_bookUpTo_74 (fun H_62 locs hP hD hS => ?_)
            obtain ⟨M_63, eM_63⟩ : ∃ M1 : Hp, M1 = va_up M_53 v1_1 (.inl (cy 14, n1, .inl (upd f48 ((nI v2w5) : Int32).toNatClampNeg f_61))) := ⟨_, rfl⟩
            have hP : va_P D vwCl ([] ++ va_pl L M_63) H_62 := by rw [eM_63]; exact hP
            have hD : va_D A ([] ++ va_pl L M_63) := by rw [eM_63]; exact hD
            have hW : WOK cy K L M_63 := by rw [eM_63]; exact hW.up_56 h1_1 ⟨_, rfl⟩
            have hF : fr K L [1, 9, 56, 57, 63] M M_63 := by rw [eM_63]; exact hF.up h1_1 (by decide)
            have hT9 : fT 9 K L [9] M M_63 := by rw [eM_63]; exact hT9.ne h1_1 (by decide)
            have hT1 : fT 1 K L [3] M M_63 := by rw [eM_63]; exact hT1.ne h1_1 (by decide)
            have hM_64 : M_63 v1_1 = .inl (cy 14, n1, .inl (upd f48 ((nI v2w5) : Int32).toNatClampNeg f_61)) := by rw [eM_63]; exact va_up_self _ _ _
            have hM_65 : M_63 v1_0 = .inl (cy 22, n1, .inr (.inr (.inr (.inr (f_58))))) := by rw [eM_63, va_up_ne _ _ (h1_0.neT h1_1 (by decide))]; exact hM_54
            have hM_66 : M_63 oa = .inr (1, [.ref v1_0, .ref v1_1, .ref v1_2, .int (nI v1_3)]) := by rw [eM_63, va_up_ne _ _ (ia.neT h1_1 (by decide))]; exact hM_55
            have hM_67 : M_63 bq_21 = .inr (9, [.int (nI v52_0), .ref v52_1, .int v52_2, .int v52_3, .int v52_4, .int v52_5, .int v52_6, .int v52_7, va_rf v52_8, .long v52_9, .long v52_10, .long v52_11, .long v52_12, .long v52_13, .long v52_14, .long v52_15]) := by rw [eM_63, va_up_ne _ _ (hb_24.neT h1_1 (by decide))]; exact hM_57
            obtain ⟨f_68, ef_68⟩ : ∃ f : Nat → Int32, f = upd f48 ((nI v2w5) : Int32).toNatClampNeg f_61 := ⟨_, rfl⟩
            rw [← ef_68] at hM_64
            clear ef_68
            refine lv_aload_n hx hb dX1_bookUpTo_75 rfl (lv_at hl 3 rfl) ?_
            refine pg_get (D := D) (ci := 1) (v := .ref v1_2) (C := RX1) (T := TX1) (N := 4) hx hb hg inG1 hown hK hP ia.1 hM_66 rfl 2 (by decide) (hg _ wd_126) (fun _ h9 => h9) rfl dX1_bookUpTo_76 ?_
            refine lv_iload_n hx hb dX1_bookUpTo_79 rfl (lv_at hl 2 rfl) ?_
            refine lv_aload_n hx hb dX1_bookUpTo_80 rfl (lv_at hl 3 rfl) ?_
            refine pg_get (D := D) (ci := 1) (v := .ref v1_2) (C := RX1) (T := TX1) (N := 4) hx hb hg inG1 hown hK hP ia.1 hM_66 rfl 2 (by decide) (hg _ wd_126) (fun _ h9 => h9) rfl dX1_bookUpTo_81 ?_
            refine lv_iload_n hx hb dX1_bookUpTo_84 rfl (lv_at hl 1 rfl) ?_
            obtain ⟨f69, hM69⟩ := hW.open_57 h1_2
            refine pg_iald hx hb hK hP h1_2.1 0 hM69 rfl (inbN v3w5 n1 (by omega) (by omega)) dX1_bookUpTo_85 ?_
            refine lv_topi (fun f_70 ef_70 => ?_)
            refine pg_iast hx hb hK hP hD hS h1_2.1 0 hM69 rfl (inbN v2w5 n1 (by omega) (by omega)) dX1_bookUpTo_86 (fun H_71 locs hP hD hS => ?_)
            obtain ⟨M_72, eM_72⟩ : ∃ M1 : Hp, M1 = va_up M_63 v1_2 (.inl (cy 14, n1, .inl (upd f69 ((nI v2w5) : Int32).toNatClampNeg f_70))) := ⟨_, rfl⟩
            have hP : va_P D vwCl ([] ++ va_pl L M_72) H_71 := by rw [eM_72]; exact hP
            have hD : va_D A ([] ++ va_pl L M_72) := by rw [eM_72]; exact hD
            have hW : WOK cy K L M_72 := by rw [eM_72]; exact hW.up_57 h1_2 ⟨_, rfl⟩
            have hF : fr K L [1, 9, 56, 57, 63] M M_72 := by rw [eM_72]; exact hF.up h1_2 (by decide)
            have hT9 : fT 9 K L [9] M M_72 := by rw [eM_72]; exact hT9.ne h1_2 (by decide)
            have hT1 : fT 1 K L [3] M M_72 := by rw [eM_72]; exact hT1.ne h1_2 (by decide)
            have hM_73 : M_72 v1_2 = .inl (cy 14, n1, .inl (upd f69 ((nI v2w5) : Int32).toNatClampNeg f_70)) := by rw [eM_72]; exact va_up_self _ _ _
            have hM_74 : M_72 v1_1 = .inl (cy 14, n1, .inl (f_68)) := by rw [eM_72, va_up_ne _ _ (h1_1.neT h1_2 (by decide))]; exact hM_64
            have hM_75 : M_72 v1_0 = .inl (cy 22, n1, .inr (.inr (.inr (.inr (f_58))))) := by rw [eM_72, va_up_ne _ _ (h1_0.neT h1_2 (by decide))]; exact hM_65
            have hM_76 : M_72 oa = .inr (1, [.ref v1_0, .ref v1_1, .ref v1_2, .int (nI v1_3)]) := by rw [eM_72, va_up_ne _ _ (ia.neT h1_2 (by decide))]; exact hM_66
            have hM_77 : M_72 bq_21 = .inr (9, [.int (nI v52_0), .ref v52_1, .int v52_2, .int v52_3, .int v52_4, .int v52_5, .int v52_6, .int v52_7, va_rf v52_8, .long v52_9, .long v52_10, .long v52_11, .long v52_12, .long v52_13, .long v52_14, .long v52_15]) := by rw [eM_72, va_up_ne _ _ (hb_24.neT h1_2 (by decide))]; exact hM_67
            obtain ⟨f_78, ef_78⟩ : ∃ f : Nat → Int32, f = upd f69 ((nI v2w5) : Int32).toNatClampNeg f_70 := ⟨_, rfl⟩
            rw [← ef_78] at hM_73
            clear ef_78
            refine lv_iinc (v := (nI (v2w5 + 1))) (lv' := [(2, .int (nI (v2w5 + 1))), (4, .ref bq_21), (3, .int (nI v3w5)), (0, .ref oa), (1, .int k1)]) hx hb dX1_bookUpTo_87 hl (k := 2) rfl (nI_1 v2w5) (by decide) rfl (fun ls hl => ?_)
            refine lv_iinc (v := (nI (v3w5 + 1))) (lv' := [(3, .int (nI (v3w5 + 1))), (2, .int (nI (v2w5 + 1))), (4, .ref bq_21), (0, .ref oa), (1, .int k1)]) hx hb dX1_bookUpTo_90 hl (k := 2) rfl (nI_1 v3w5) (by decide) rfl (fun ls hl => ?_)
            refine lv_goto (tgt := 4) hx hb dX1_bookUpTo_93 (by decide) ?_
            exact ih_3 (v2w5 + 1) (v3w5 + 1) M_72 H_71 _ _ (by omega) hM_76 (by omega) (by omega) (by omega) hW hF hT9 hT1 hP hD hS (lv_sub hl [0, 1, 3, 4] rfl)
          · have hz := rfl (a := 0)
            refine lv_aload hx hb dX1_bookUpTo_35 (lv_at hl 0 rfl) ?_
            refine lv_dup hx hb dX1_bookUpTo_37 rfl ?_
            obtain ⟨v79_0, v79_1, v79_2, v79_3, v79_4, v79_5, v79_6, v79_7, v79_8, v79_9, v79_10, v79_11, v79_12, v79_13, v79_14, v79_15, hM79, h79_0, h79_1, h79_4, h79_8⟩ := hW.open_9 hb_24
            refine pg_get (D := D) (ci := 9) (v := .long v79_9) (C := RX9) (T := TX9) (N := 16) hx hb hg inG9 hown hK hP hb_24.1 hM79 rfl 9 (by decide) (hg _ wd_127) (fun _ h9 => h9) rfl dX1_bookUpTo_38 ?_
            refine lv_aload_n hx hb dX1_bookUpTo_41 rfl (lv_at hl 3 rfl) ?_
            refine pg_get (D := D) (ci := 1) (v := .ref v1_2) (C := RX1) (T := TX1) (N := 4) hx hb hg inG1 hown hK hP ia.1 hM_11 rfl 2 (by decide) (hg _ wd_126) (fun _ h9 => h9) rfl dX1_bookUpTo_42 ?_
            refine lv_iload_n hx hb dX1_bookUpTo_45 rfl (lv_at hl 1 rfl) ?_
            obtain ⟨f80, hM80⟩ := hW.open_57 h1_2
            refine pg_iald hx hb hK hP h1_2.1 0 hM80 rfl (inbN v3w5 n1 (by omega) (by omega)) dX1_bookUpTo_46 ?_
            refine lv_topi (fun f_81 ef_81 => ?_)
            refine lv_i2l hx hb dX1_bookUpTo_47 rfl ?_
            refine lv_topl (fun f_82 ef_82 => ?_)
            refine lv_ladd hx hb dX1_bookUpTo_48 ?_
            refine lv_topl (fun f_83 ef_83 => ?_)
            refine pg_put (D := D) (ci := 9) (v := .long f_83) (ty := .long) (C := RX9) (T := TX9) (N := 16) hx hb hg inG9 tyX9 tyX9_ok nmX9 hown hK hP hD hS hb_24.1 hM79 rfl 9 (by decide) (hg _ wd_127) (fun _ h9 => h9) rfl (by decide +kernel) rfl rfl (Nat.le_of_ble_eq_true rfl) dX1_bookUpTo_49 (fun H_84 locs hP hD hS => ?_)
            obtain ⟨M_85, eM_85⟩ : ∃ M1 : Hp, M1 = va_up M_9 bq_21 (.inr (9, [.int (nI v79_0), .ref v79_1, .int v79_2, .int v79_3, .int v79_4, .int v79_5, .int v79_6, .int v79_7, va_rf v79_8, .long f_83, .long v79_10, .long v79_11, .long v79_12, .long v79_13, .long v79_14, .long v79_15])) := ⟨_, rfl⟩
            have hP : va_P D vwCl ([] ++ va_pl L M_85) H_84 := by rw [eM_85]; exact hP
            have hD : va_D A ([] ++ va_pl L M_85) := by rw [eM_85]; exact hD
            have hW : WOK cy K L M_85 := by rw [eM_85]; exact hW.up_9 hb_24 ⟨v79_0, v79_1, v79_2, v79_3, v79_4, v79_5, v79_6, v79_7, v79_8, f_83, v79_10, v79_11, v79_12, v79_13, v79_14, v79_15, rfl, h79_0, h79_1, h79_4, h79_8⟩
            have hF : fr K L [1, 9, 56, 57, 63] M M_85 := by rw [eM_85]; exact hF.up hb_24 (by decide)
            have hT9 : fT 9 K L [9] M M_85 := by rw [eM_85]; exact hT9.up (i := 9) hM79 rfl (by decide)
            have hT1 : fT 1 K L [3] M M_85 := by rw [eM_85]; exact hT1.ne hb_24 (by decide)
            have hM_86 : M_85 bq_21 = .inr (9, [.int (nI v79_0), .ref v79_1, .int v79_2, .int v79_3, .int v79_4, .int v79_5, .int v79_6, .int v79_7, va_rf v79_8, .long f_83, .long v79_10, .long v79_11, .long v79_12, .long v79_13, .long v79_14, .long v79_15]) := by rw [eM_85]; exact va_up_self _ _ _
            have hM_87 : M_85 oa = .inr (1, [.ref v1_0, .ref v1_1, .ref v1_2, .int (nI v1_3)]) := by rw [eM_85, va_up_ne _ _ (ia.neT hb_24 (by decide))]; exact hM_11
            have hM_88 : M_85 v1_0 = .inl (cy 22, n1, .inr (.inr (.inr (.inr (f19))))) := by rw [eM_85, va_up_ne _ _ (h1_0.neT hb_24 (by decide))]; exact hM19
            have hM_89 : M_85 v1_1 = .inl (cy 14, n1, .inl (f48)) := by rw [eM_85, va_up_ne _ _ (h1_1.neT hb_24 (by decide))]; exact hM48
            have hM_90 : M_85 v1_2 = .inl (cy 14, n1, .inl (f80)) := by rw [eM_85, va_up_ne _ _ (h1_2.neT hb_24 (by decide))]; exact hM80
            refine lv_goto (tgt := 90) hx hb dX1_bookUpTo_52 (by decide) ?_
            refine lv_iinc (v := (nI (v3w5 + 1))) (lv' := [(3, .int (nI (v3w5 + 1))), (4, .ref bq_21), (2, .int (nI v2w5)), (0, .ref oa), (1, .int k1)]) hx hb dX1_bookUpTo_90 hl (k := 1) rfl (nI_1 v3w5) (by decide) rfl (fun ls hl => ?_)
            refine lv_goto (tgt := 4) hx hb dX1_bookUpTo_93 (by decide) ?_
            exact ih_3 v2w5 (v3w5 + 1) M_85 H_84 _ _ (by omega) hM_87 (by omega) (by omega) (by omega) hW hF hT9 hT1 hP hD hS (lv_sub hl [0, 2, 3, 4] rfl)
  exact key_2 (120 - 0 + 1) 0 0 M s.heap _ _ (by omega) hM1 (by omega) (by omega) (by omega) hW hF hT9 hT1 hP hD hS (lv_sub hl [0, 1, 2, 3] rfl)
set_option maxHeartbeats 4000000 in
set_option maxRecDepth 100000 in
theorem s_X6_termOf (l : Launch) (D : va_G) (cy : Nat → ClassId) (K : Kp) (L : List Nat) (M : Hp) (sz : Nat) (oa : Nat) (k1 : Int32) (k2 : Int32) (hW : WOK cy K L M) (ia : isk K L oa 6 0) : Met l yX6_termOf (wsM yX6_termOf cX6_termOf 3 (some .int)) ({ frames := 1, cells := 0, slots := 0, locals := 21 }) (va_Pc [.ref oa, .int k1, .int k2] (PG D cy [] L M sz)) (va_Qi (fun (r : Int32) (_ : Unit) => True) (fun _ t => PQ D [] L M (va_A ([] ++ va_pl L M) sz) t) (va_A ([] ++ va_pl L M) sz)) 0 0 (va_A ([] ++ va_pl L M) sz) := by
  refine Met.ofW (cc := cX6_termOf) (maxL := 3) (ret := (some .int)) (by decide) rfl ?_
  intro p e s m args below meth c s₁ B hml hv
  obtain ⟨rfl, hsz, hP, hK, hD0, hN⟩ := hv
  have hx := B.exec
  have hb := B.bytes
  have hr := B.returns
  have hts := atoms_spec (ws := (wsM yX6_termOf cX6_termOf 3 (some .int))) B.pre
  have hg : ∀ w ∈ lw_good, w.before _ s = true := fun w h => hts w (List.mem_cons_of_mem _ h)
  have hown : s.vm.findClass RX6 = some m.cls := findClass_of_methodNamed B.named
  have hlocks := B.notSynchronized
  subst hsz
  have hD := hD0.self (sz := s.heap.size)
  generalize hAe : va_A ([] ++ va_pl L M) s.heap.size = A at hD ⊢
  have hA : ∀ q : Nat, s.heap.size ≤ q → A q := fun q h => by rw [← hAe]; exact Or.inr h
  have hS : va_S A s.heap s.heap [] := va_S.rf
  have hl := lv_entry ([.ref oa, .int k1, .int k2]) (n := 3) (Nat.le_of_ble_eq_true rfl)
  rw [lg_entry_eq]
  generalize (lg_sl ([.ref oa, .int k1, .int k2]) ++ List.replicate (3 - (lg_sl ([.ref oa, .int k1, .int k2])).length) Slot.unset).toArray = ls at hl ⊢
  refine W.nameQ (fun Q hQ => ?_)
  refine W.nameR (fun R hR => ?_)
  have hRf : 1 ≤ R.frames := by rw [hR]; exact Nat.le_of_ble_eq_true rfl
  have hRl : 21 ≤ R.locals := by rw [hR]; exact Nat.le_of_ble_eq_true rfl
  have hRc : 0 ≤ R.cells := by rw [hR]; exact Nat.le_of_ble_eq_true rfl
  have hRs : 0 ≤ R.slots := by rw [hR]; exact Nat.le_of_ble_eq_true rfl
  have hl : lv_has ls 3 [(0, .ref oa), (1, .int k1), (2, .int k2)] := hl
  refine lv_iload_n hx hb dX6_termOf_0 rfl (lv_at hl 1 rfl) ?_
  refine lv_iload_n hx hb dX6_termOf_1 rfl (lv_at hl 2 rfl) ?_
  have hPc : va_P D vwCl ([] ++ va_pl L M) s.heap := hP
  have hDc : va_D A ([] ++ va_pl L M) := hD
  have hFc : ∀ q, va_A ([] ++ va_pl L M) s.heap.size q → A q := pg_free hDc hS hA
  refine va_calli (va_runS (As := [.int k1, .int k2]) (rest := []) ⟨hx, hb, hml, hown, hg⟩ (s_X6_isTerm l D cy K L M s.heap.size k1 k2  hW ) (va_cwS 2 hg (gS wd_128 wd_129 wd_97 wd_130) rfl rfl rfl (by decide +kernel) ⟨(Nat.le_trans (Nat.le_of_ble_eq_true rfl) hRf), (Nat.le_trans (Nat.le_of_ble_eq_true rfl) hRl)⟩) ⟨PG.blind, fun U hU hW => ⟨rfl, PG.at hPc hK hDc hN hU hW⟩⟩ rfl rfl hl.1 rfl (lv_room (Nat.le_of_ble_eq_true rfl)) dX6_termOf_2 ⟨(Nat.le_trans (Nat.le_of_ble_eq_true rfl) hRc), (Nat.le_trans (Nat.le_of_ble_eq_true rfl) hRs)⟩) hS (fun q _ h => hFc q h) hFc (fun r_2 M_3 t H_1 locs ht hvm hw hB hz1 hk1 hS => ?_)
  have hp_4 := hw
  obtain ⟨hP1, hD1⟩ := hB
  rw [ht] at hP1
  have hP : va_P D vwCl ([] ++ va_pl L M) H_1 := hP1
  have hD : va_D A ([] ++ va_pl L M) := hD1.mono hFc
  rcases hp_4 with ⟨rfl, c_5, c_6, c_7, c_8⟩ | rfl
  · have hz := rfl (a := 0)
    refine lv_if_eq (tgt := 22) hx hb dX6_termOf_5 (by decide) (fun c_9 => absurd c_9 (by decide)) (fun _ => ?_)
    refine lv_aload_n hx hb dX6_termOf_8 rfl (lv_at hl 0 rfl) ?_
    obtain ⟨v10_0, v10_1, v10_2, hM10, h10_2⟩ := hW.open_6 ia
    refine pg_get (D := D) (ci := 6) (v := .ref v10_2) (C := RX6) (T := TX6) (N := 3) hx hb hg inG6 hown hK hP ia.1 hM10 rfl 2 (by decide) (hg _ wd_93) (fun _ h9 => h9) rfl dX6_termOf_9 ?_
    refine lv_iload_n hx hb dX6_termOf_12 rfl (lv_at hl 2 rfl) ?_
    refine lv_bipush (v := 6) hx hb dX6_termOf_13 (by decide) ?_
    obtain ⟨j_11, hj_12, rfl⟩ := i32nat 4 (by decide) c_7 c_8
    refine lv_imul hx hb dX6_termOf_15 ?_
    refine lv_topi (fun f_13 ef_13 => ?_)
    obtain rfl : f_13 = (nI (j_11 * 6)) := ef_13.trans (nI_mul j_11 6)
    refine lv_iload_n hx hb dX6_termOf_16 rfl (lv_at hl 1 rfl) ?_
    obtain ⟨j_14, hj_15, rfl⟩ := i32nat 6 (by decide) c_5 c_6
    refine lv_iadd hx hb dX6_termOf_17 ?_
    refine lv_topi (fun f_16 ef_16 => ?_)
    obtain rfl : f_16 = (nI ((j_11 * 6) + j_14)) := ef_16.trans (nI_add (j_11 * 6) j_14)
    obtain ⟨f17, hM17⟩ := hW.open_54 h10_2
    refine pg_iald hx hb hK hP h10_2.1 0 hM17 rfl (inbN ((j_11 * 6) + j_14) 24 (by omega) (by omega)) dX6_termOf_18 ?_
    refine lv_topi (fun f_18 ef_18 => ?_)
    refine lv_goto (tgt := 23) hx hb dX6_termOf_19 (by decide) ?_
    rw [hQ]
    exact W.iret (v := f_18) hx hb hr (fun t ht hW9 => ⟨⟨f_18, (), rfl, trivial, ⟨by rw [ht]; exact hP, hD⟩⟩, hS.F ht⟩) hS.2.2 dX6_termOf_23
  · have hz := rfl (a := 0)
    refine lv_if_eq (tgt := 22) hx hb dX6_termOf_5 (by decide) (fun _ => ?_) (fun c_19 => absurd c_19 (by decide))
    refine lv_iconst (v := 0) hx hb dX6_termOf_22 (by decide) ?_
    rw [hQ]
    exact W.iret (v := 0) hx hb hr (fun t ht hW9 => ⟨⟨0, (), rfl, trivial, ⟨by rw [ht]; exact hP, hD⟩⟩, hS.F ht⟩) hS.2.2 dX6_termOf_23
set_option maxHeartbeats 4000000 in
set_option maxRecDepth 100000 in
theorem s_X6_replace (l : Launch) (D : va_G) (cy : Nat → ClassId) (K : Kp) (L : List Nat) (M : Hp) (sz : Nat) (oa : Nat) (k1 : Int32) (k2 : Int32) (k3 : Int32) (hW : WOK cy K L M) (ia : isk K L oa 6 0) : Met l yX6_replace (wsM yX6_replace cX6_replace 5 (some .int)) ({ frames := 1, cells := 0, slots := 0, locals := 21 }) (va_Pc [.ref oa, .int k1, .int k2, .int k3] (PG D cy [] L M sz)) (va_Qi (fun (r : Int32) (M9 : Hp) => WOK cy K L M9 ∧ fr K L [6, 54] M M9 ∧ fT 6 K L [1] M M9 ∧ (True)) (fun M9 t => PQ D [] L M9 (va_A ([] ++ va_pl L M) sz) t) (va_A ([] ++ va_pl L M) sz)) 0 0 (va_A ([] ++ va_pl L M) sz) := by
  refine Met.ofW (cc := cX6_replace) (maxL := 5) (ret := (some .int)) (by decide) rfl ?_
  intro p e s m args below meth c s₁ B hml hv
  obtain ⟨rfl, hsz, hP, hK, hD0, hN⟩ := hv
  have hx := B.exec
  have hb := B.bytes
  have hr := B.returns
  have hts := atoms_spec (ws := (wsM yX6_replace cX6_replace 5 (some .int))) B.pre
  have hg : ∀ w ∈ lw_good, w.before _ s = true := fun w h => hts w (List.mem_cons_of_mem _ h)
  have hown : s.vm.findClass RX6 = some m.cls := findClass_of_methodNamed B.named
  have hlocks := B.notSynchronized
  subst hsz
  have hD := hD0.self (sz := s.heap.size)
  generalize hAe : va_A ([] ++ va_pl L M) s.heap.size = A at hD ⊢
  have hA : ∀ q : Nat, s.heap.size ≤ q → A q := fun q h => by rw [← hAe]; exact Or.inr h
  have hS : va_S A s.heap s.heap [] := va_S.rf
  have hl := lv_entry ([.ref oa, .int k1, .int k2, .int k3]) (n := 5) (Nat.le_of_ble_eq_true rfl)
  rw [lg_entry_eq]
  generalize (lg_sl ([.ref oa, .int k1, .int k2, .int k3]) ++ List.replicate (5 - (lg_sl ([.ref oa, .int k1, .int k2, .int k3])).length) Slot.unset).toArray = ls at hl ⊢
  refine W.nameQ (fun Q hQ => ?_)
  refine W.nameR (fun R hR => ?_)
  have hRf : 1 ≤ R.frames := by rw [hR]; exact Nat.le_of_ble_eq_true rfl
  have hRl : 21 ≤ R.locals := by rw [hR]; exact Nat.le_of_ble_eq_true rfl
  have hRc : 0 ≤ R.cells := by rw [hR]; exact Nat.le_of_ble_eq_true rfl
  have hRs : 0 ≤ R.slots := by rw [hR]; exact Nat.le_of_ble_eq_true rfl
  have hF : fr K L [6, 54] M M := fr.rf
  have hT6 : fT 6 K L [1] M M := fT.rf
  have hl : lv_has ls 5 [(0, .ref oa), (1, .int k1), (2, .int k2), (3, .int k3)] := hl
  refine lv_aload_n hx hb dX6_replace_0 rfl (lv_at hl 0 rfl) ?_
  obtain ⟨v1_0, v1_1, v1_2, hM1, h1_2⟩ := hW.open_6 ia
  refine pg_get (D := D) (ci := 6) (v := .int v1_1) (C := RX6) (T := TX6) (N := 3) hx hb hg inG6 hown hK hP ia.1 hM1 rfl 1 (by decide) (hg _ wd_92) (fun _ h9 => h9) rfl dX6_replace_1 ?_
  refine lv_istore (lv' := [(4, .int v1_1), (0, .ref oa), (1, .int k1), (2, .int k2), (3, .int k3)]) hx hb dX6_replace_4 hl (by decide) rfl (fun ls hl => ?_)
  refine lv_iload_n hx hb dX6_replace_6 rfl (lv_at hl 3 rfl) ?_
  refine lv_iconst (v := 4) hx hb dX6_replace_7 (by decide) ?_
  refine lv_icmp_ne (tgt := 19) hx hb dX6_replace_8 (by decide) (fun c_2 => ?_) (fun c_2 => ?_)
  · have hz := rfl (a := 0)
    refine lv_iload_n hx hb dX6_replace_19 rfl (lv_at hl 2 rfl) ?_
    refine lv_iload_n hx hb dX6_replace_20 rfl (lv_at hl 3 rfl) ?_
    have hPc : va_P D vwCl ([] ++ va_pl L M) s.heap := hP
    have hDc : va_D A ([] ++ va_pl L M) := hD
    have hFc : ∀ q, va_A ([] ++ va_pl L M) s.heap.size q → A q := pg_free hDc hS hA
    refine va_calli (va_runS (As := [.int k1, .int k2]) (rest := []) ⟨hx, hb, hml, hown, hg⟩ (s_X6_isTerm l D cy K L M s.heap.size k1 k2  hW ) (va_cwS 2 hg (gS wd_128 wd_129 wd_97 wd_130) rfl rfl rfl (by decide +kernel) ⟨(Nat.le_trans (Nat.le_of_ble_eq_true rfl) hRf), (Nat.le_trans (Nat.le_of_ble_eq_true rfl) hRl)⟩) ⟨PG.blind, fun U hU hW => ⟨rfl, PG.at hPc hK hDc hN hU hW⟩⟩ rfl rfl hl.1 rfl (lv_room (Nat.le_of_ble_eq_true rfl)) dX6_replace_21 ⟨(Nat.le_trans (Nat.le_of_ble_eq_true rfl) hRc), (Nat.le_trans (Nat.le_of_ble_eq_true rfl) hRs)⟩) hS (fun q _ h => hFc q h) hFc (fun r_4 M_5 t H_3 locs ht hvm hw hB hz1 hk1 hS => ?_)
    have hp_6 := hw
    obtain ⟨hP1, hD1⟩ := hB
    rw [ht] at hP1
    have hP : va_P D vwCl ([] ++ va_pl L M) H_3 := hP1
    have hD : va_D A ([] ++ va_pl L M) := hD1.mono hFc
    rcases hp_6 with ⟨rfl, c_7, c_8, c_9, c_10⟩ | rfl
    · have hz := rfl (a := 0)
      refine lv_if_eq (tgt := 52) hx hb dX6_replace_24 (by decide) (fun c_11 => absurd c_11 (by decide)) (fun _ => ?_)
      refine lv_aload_n hx hb dX6_replace_27 rfl (lv_at hl 1 rfl) ?_
      refine pg_get (D := D) (ci := 6) (v := .ref v1_2) (C := RX6) (T := TX6) (N := 3) hx hb hg inG6 hown hK hP ia.1 hM1 rfl 2 (by decide) (hg _ wd_93) (fun _ h9 => h9) rfl dX6_replace_28 ?_
      refine lv_iload_n hx hb dX6_replace_31 rfl (lv_at hl 3 rfl) ?_
      refine lv_bipush (v := 6) hx hb dX6_replace_32 (by decide) ?_
      obtain ⟨j_12, hj_13, rfl⟩ := i32nat 4 (by decide) c_9 c_10
      refine lv_imul hx hb dX6_replace_34 ?_
      refine lv_topi (fun f_14 ef_14 => ?_)
      obtain rfl : f_14 = (nI (j_12 * 6)) := ef_14.trans (nI_mul j_12 6)
      refine lv_iload_n hx hb dX6_replace_35 rfl (lv_at hl 2 rfl) ?_
      obtain ⟨j_15, hj_16, rfl⟩ := i32nat 6 (by decide) c_7 c_8
      refine lv_iadd hx hb dX6_replace_36 ?_
      refine lv_topi (fun f_17 ef_17 => ?_)
      obtain rfl : f_17 = (nI ((j_12 * 6) + j_15)) := ef_17.trans (nI_add (j_12 * 6) j_15)
      obtain ⟨f18, hM18⟩ := hW.open_54 h1_2
      refine pg_iald hx hb hK hP h1_2.1 0 hM18 rfl (inbN ((j_12 * 6) + j_15) 24 (by omega) (by omega)) dX6_replace_37 ?_
      refine lv_topi (fun f_19 ef_19 => ?_)
      refine lv_istore (lv' := [(4, .int f_19), (0, .ref oa), (1, .int (nI j_15)), (2, .int (nI j_12)), (3, .int k3)]) hx hb dX6_replace_38 hl (by decide) rfl (fun ls hl => ?_)
      refine lv_aload_n hx hb dX6_replace_40 rfl (lv_at hl 1 rfl) ?_
      refine pg_get (D := D) (ci := 6) (v := .ref v1_2) (C := RX6) (T := TX6) (N := 3) hx hb hg inG6 hown hK hP ia.1 hM1 rfl 2 (by decide) (hg _ wd_93) (fun _ h9 => h9) rfl dX6_replace_41 ?_
      refine lv_iload_n hx hb dX6_replace_44 rfl (lv_at hl 3 rfl) ?_
      refine lv_bipush (v := 6) hx hb dX6_replace_45 (by decide) ?_
      refine lv_imul hx hb dX6_replace_47 ?_
      refine lv_topi (fun f_20 ef_20 => ?_)
      obtain rfl : f_20 = (nI (j_12 * 6)) := ef_20.trans (nI_mul j_12 6)
      refine lv_iload_n hx hb dX6_replace_48 rfl (lv_at hl 2 rfl) ?_
      refine lv_iadd hx hb dX6_replace_49 ?_
      refine lv_topi (fun f_21 ef_21 => ?_)
      obtain rfl : f_21 = (nI ((j_12 * 6) + j_15)) := ef_21.trans (nI_add (j_12 * 6) j_15)
      refine lv_iload_n hx hb dX6_replace_50 rfl (lv_at hl 4 rfl) ?_
      refine pg_iast hx hb hK hP hD hS h1_2.1 0 hM18 rfl (inbN ((j_12 * 6) + j_15) 24 (by omega) (by omega)) dX6_replace_51 (fun H_22 locs hP hD hS => ?_)
      obtain ⟨M_23, eM_23⟩ : ∃ M1 : Hp, M1 = va_up M v1_2 (.inl (cy 14, 24, .inl (upd f18 ((nI ((j_12 * 6) + j_15)) : Int32).toNatClampNeg k3))) := ⟨_, rfl⟩
      have hP : va_P D vwCl ([] ++ va_pl L M_23) H_22 := by rw [eM_23]; exact hP
      have hD : va_D A ([] ++ va_pl L M_23) := by rw [eM_23]; exact hD
      have hW : WOK cy K L M_23 := by rw [eM_23]; exact hW.up_54 h1_2 ⟨_, rfl⟩
      have hF : fr K L [6, 54] M M_23 := by rw [eM_23]; exact hF.up h1_2 (by decide)
      have hT6 : fT 6 K L [1] M M_23 := by rw [eM_23]; exact hT6.ne h1_2 (by decide)
      have hM_24 : M_23 v1_2 = .inl (cy 14, 24, .inl (upd f18 ((nI ((j_12 * 6) + j_15)) : Int32).toNatClampNeg k3)) := by rw [eM_23]; exact va_up_self _ _ _
      have hM_25 : M_23 oa = .inr (6, [.int v1_0, .int v1_1, .ref v1_2]) := by rw [eM_23, va_up_ne _ _ (ia.neT h1_2 (by decide))]; exact hM1
      obtain ⟨f_26, ef_26⟩ : ∃ f : Nat → Int32, f = upd f18 ((nI ((j_12 * 6) + j_15)) : Int32).toNatClampNeg k3 := ⟨_, rfl⟩
      rw [← ef_26] at hM_24
      clear ef_26
      refine lv_iload hx hb dX6_replace_52 (lv_at hl 0 rfl) ?_
      rw [hQ]
      exact W.iret (v := f_19) hx hb hr (fun t ht hW9 => ⟨⟨f_19, M_23, rfl, ⟨hW, hF, hT6, trivial⟩, ⟨by rw [ht]; exact hP, hD⟩⟩, hS.F ht⟩) hS.2.2 dX6_replace_54
    · have hz := rfl (a := 0)
      refine lv_if_eq (tgt := 52) hx hb dX6_replace_24 (by decide) (fun _ => ?_) (fun c_27 => absurd c_27 (by decide))
      refine lv_iload hx hb dX6_replace_52 (lv_at hl 0 rfl) ?_
      rw [hQ]
      exact W.iret (v := v1_1) hx hb hr (fun t ht hW9 => ⟨⟨v1_1, M, rfl, ⟨hW, hF, hT6, trivial⟩, ⟨by rw [ht]; exact hP, hD⟩⟩, hS.F ht⟩) hS.2.2 dX6_replace_54
  · have hz := rfl (a := 0)
    refine lv_aload_n hx hb dX6_replace_11 rfl (lv_at hl 1 rfl) ?_
    refine lv_iload_n hx hb dX6_replace_12 rfl (lv_at hl 4 rfl) ?_
    refine pg_put (D := D) (ci := 6) (v := .int k3) (ty := .int) (C := RX6) (T := TX6) (N := 3) hx hb hg inG6 tyX6 tyX6_ok nmX6 hown hK hP hD hS ia.1 hM1 rfl 1 (by decide) (hg _ wd_92) (fun _ h9 => h9) rfl (by decide +kernel) rfl rfl (Nat.le_of_ble_eq_true rfl) dX6_replace_13 (fun H_28 locs hP hD hS => ?_)
    obtain ⟨M_29, eM_29⟩ : ∃ M1 : Hp, M1 = va_up M oa (.inr (6, [.int v1_0, .int k3, .ref v1_2])) := ⟨_, rfl⟩
    have hP : va_P D vwCl ([] ++ va_pl L M_29) H_28 := by rw [eM_29]; exact hP
    have hD : va_D A ([] ++ va_pl L M_29) := by rw [eM_29]; exact hD
    have hW : WOK cy K L M_29 := by rw [eM_29]; exact hW.up_6 ia ⟨v1_0, k3, v1_2, rfl, h1_2⟩
    have hF : fr K L [6, 54] M M_29 := by rw [eM_29]; exact hF.up ia (by decide)
    have hT6 : fT 6 K L [1] M M_29 := by rw [eM_29]; exact hT6.up (i := 1) hM1 rfl (by decide)
    have hM_30 : M_29 oa = .inr (6, [.int v1_0, .int k3, .ref v1_2]) := by rw [eM_29]; exact va_up_self _ _ _
    refine lv_goto (tgt := 52) hx hb dX6_replace_16 (by decide) ?_
    refine lv_iload hx hb dX6_replace_52 (lv_at hl 0 rfl) ?_
    rw [hQ]
    exact W.iret (v := v1_1) hx hb hr (fun t ht hW9 => ⟨⟨v1_1, M_29, rfl, ⟨hW, hF, hT6, trivial⟩, ⟨by rw [ht]; exact hP, hD⟩⟩, hS.F ht⟩) hS.2.2 dX6_replace_54
set_option maxHeartbeats 4000000 in
set_option maxRecDepth 100000 in
theorem s_X2_termOn (l : Launch) (D : va_G) (cy : Nat → ClassId) (K : Kp) (L : List Nat) (M : Hp) (sz : Nat) (oa : Nat) (k1 : Int32) (k2 : Int32) (k3 : Int32) (hW : WOK cy K L M) (ia : isk K L oa 2 0) : Met l yX2_termOn (wsM yX2_termOn cX2_termOn 5 (some .int)) ({ frames := 2, cells := 0, slots := 0, locals := 43 }) (va_Pc [.ref oa, .int k1, .int k2, .int k3] (PG D cy [] L M sz)) (va_Qi (fun (r : Int32) (_ : Unit) => True) (fun _ t => PQ D [] L M (va_A ([] ++ va_pl L M) sz) t) (va_A ([] ++ va_pl L M) sz)) 0 0 (va_A ([] ++ va_pl L M) sz) := by
  refine Met.ofW (cc := cX2_termOn) (maxL := 5) (ret := (some .int)) (by decide) rfl ?_
  intro p e s m args below meth c s₁ B hml hv
  obtain ⟨rfl, hsz, hP, hK, hD0, hN⟩ := hv
  have hx := B.exec
  have hb := B.bytes
  have hr := B.returns
  have hts := atoms_spec (ws := (wsM yX2_termOn cX2_termOn 5 (some .int))) B.pre
  have hg : ∀ w ∈ lw_good, w.before _ s = true := fun w h => hts w (List.mem_cons_of_mem _ h)
  have hown : s.vm.findClass RX2 = some m.cls := findClass_of_methodNamed B.named
  have hlocks := B.notSynchronized
  subst hsz
  have hD := hD0.self (sz := s.heap.size)
  generalize hAe : va_A ([] ++ va_pl L M) s.heap.size = A at hD ⊢
  have hA : ∀ q : Nat, s.heap.size ≤ q → A q := fun q h => by rw [← hAe]; exact Or.inr h
  have hS : va_S A s.heap s.heap [] := va_S.rf
  have hl := lv_entry ([.ref oa, .int k1, .int k2, .int k3]) (n := 5) (Nat.le_of_ble_eq_true rfl)
  rw [lg_entry_eq]
  generalize (lg_sl ([.ref oa, .int k1, .int k2, .int k3]) ++ List.replicate (5 - (lg_sl ([.ref oa, .int k1, .int k2, .int k3])).length) Slot.unset).toArray = ls at hl ⊢
  refine W.nameQ (fun Q hQ => ?_)
  refine W.nameR (fun R hR => ?_)
  have hRf : 2 ≤ R.frames := by rw [hR]; exact Nat.le_of_ble_eq_true rfl
  have hRl : 43 ≤ R.locals := by rw [hR]; exact Nat.le_of_ble_eq_true rfl
  have hRc : 0 ≤ R.cells := by rw [hR]; exact Nat.le_of_ble_eq_true rfl
  have hRs : 0 ≤ R.slots := by rw [hR]; exact Nat.le_of_ble_eq_true rfl
  have hl : lv_has ls 5 [(0, .ref oa), (1, .int k1), (2, .int k2), (3, .int k3)] := hl
  refine lv_aload_n hx hb dX2_termOn_0 rfl (lv_at hl 0 rfl) ?_
  refine lv_iload_n hx hb dX2_termOn_1 rfl (lv_at hl 1 rfl) ?_
  obtain ⟨v1_0, v1_1, v1_2, v1_3, v1_4, v1_5, v1_6, v1_7, v1_8, v1_9, v1_10, v1_11, v1_12, v1_13, v1_14, v1_15, v1_16, v1_17, v1_18, v1_19, hM1, h1_3, h1_4, h1_5, h1_6, h1_7, h1_8, h1_9, h1_10, h1_11, h1_12, h1_13, h1_16, h1_17, h1_18, h1_19⟩ := hW.open_2 ia
  have hPc : va_P D vwCl ([] ++ va_pl L M) s.heap := hP
  have hDc : va_D A ([] ++ va_pl L M) := hD
  have hFc : ∀ q, va_A ([] ++ va_pl L M) s.heap.size q → A q := pg_free hDc hS hA
  refine va_callq (va_runV (As := [.int k1]) (rest := []) ⟨hx, hb, hml, hown, hg⟩ (s_X2_ruleOn l D cy K L M s.heap.size oa k1  hW ia) (cwV 1 hg (gV wd_131 wd_132 wd_133 wd_57 wd_134) rfl rfl rfl (by decide +kernel) ⟨(Nat.le_trans (Nat.le_of_ble_eq_true rfl) hRf), (Nat.le_trans (Nat.le_of_ble_eq_true rfl) hRl)⟩) ⟨PG.blind, pg_recv hK hP ia.1 hM1 rfl, fun U hU hW => ⟨rfl, PG.at hPc hK hDc hN hU hW⟩⟩ rfl rfl hl.1 rfl (lv_room (Nat.le_of_ble_eq_true rfl)) dX2_termOn_2 ⟨(Nat.le_trans (Nat.le_of_ble_eq_true rfl) hRc), (Nat.le_trans (Nat.le_of_ble_eq_true rfl) hRs)⟩) hS (fun q _ h => hFc q h) hFc (fun r_3 M_4 t H_2 locs ht hvm hw hB hz1 hk1 hS => ?_)
  have hp_5 := hw
  obtain ⟨hP1, hD1⟩ := hB
  rw [ht] at hP1
  have hP : va_P D vwCl ([] ++ va_pl L M) H_2 := hP1
  have hD : va_D A ([] ++ va_pl L M) := hD1.mono hFc
  rcases r_3 with _ | b_6
  · have hz := rfl (a := 0)
    refine lv_astoreN (lv' := [(4, .null), (0, .ref oa), (1, .int k1), (2, .int k2), (3, .int k3)]) hx hb dX2_termOn_5 hl (by decide) rfl (fun ls hl => ?_)
    refine lv_aloadN hx hb dX2_termOn_7 (lv_at hl 0 rfl) ?_
    refine lv_ifnonnullN hx hb dX2_termOn_9 ?_
    refine lv_iconst (v := 0) hx hb dX2_termOn_12 (by decide) ?_
    refine lv_goto (tgt := 23) hx hb dX2_termOn_13 (by decide) ?_
    rw [hQ]
    exact W.iret (v := 0) hx hb hr (fun t ht hW9 => ⟨⟨0, (), rfl, trivial, ⟨by rw [ht]; exact hP, hD⟩⟩, hS.F ht⟩) hS.2.2 dX2_termOn_23
  · have hb_7 := hp_5 b_6 rfl
    refine lv_astore (lv' := [(4, .ref b_6), (0, .ref oa), (1, .int k1), (2, .int k2), (3, .int k3)]) hx hb dX2_termOn_5 hl (by decide) rfl (fun ls hl => ?_)
    refine lv_aload hx hb dX2_termOn_7 (lv_at hl 0 rfl) ?_
    refine lv_ifnonnull (tgt := 16) hx hb dX2_termOn_9 (by decide) ?_
    refine lv_aload hx hb dX2_termOn_16 (lv_at hl 0 rfl) ?_
    refine lv_iload_n hx hb dX2_termOn_18 rfl (lv_at hl 4 rfl) ?_
    refine lv_iload_n hx hb dX2_termOn_19 rfl (lv_at hl 3 rfl) ?_
    obtain ⟨v8_0, v8_1, v8_2, hM8, h8_2⟩ := hW.open_6 hb_7
    have hPc : va_P D vwCl ([] ++ va_pl L M) H_2 := hP
    have hDc : va_D A ([] ++ va_pl L M) := hD
    have hFc : ∀ q, va_A ([] ++ va_pl L M) H_2.size q → A q := pg_free hDc hS hA
    refine va_calli (va_runV (As := [.int k3, .int k2]) (rest := []) ⟨hx, hb, hml, hown, hg⟩ (s_X6_termOf l D cy K L M H_2.size b_6 k3 k2  hW hb_7) (cwV 2 hg (gV wd_135 wd_136 wd_137 wd_97 wd_138) rfl rfl rfl (by decide +kernel) ⟨(Nat.le_trans (Nat.le_of_ble_eq_true rfl) hRf), (Nat.le_trans (Nat.le_of_ble_eq_true rfl) hRl)⟩) ⟨PG.blind, pg_recv hK hP hb_7.1 hM8 rfl, fun U hU hW => ⟨rfl, PG.at hPc hK hDc hN hU hW⟩⟩ rfl rfl hl.1 rfl (lv_room (Nat.le_of_ble_eq_true rfl)) dX2_termOn_20 ⟨(Nat.le_trans (Nat.le_of_ble_eq_true rfl) hRc), (Nat.le_trans (Nat.le_of_ble_eq_true rfl) hRs)⟩) hS (fun q _ h => hFc q h) hFc (fun r_10 M_11 t H_9 locs ht hvm hw hB hz1 hk1 hS => ?_)
    have hp_12 := hw
    obtain ⟨hP1, hD1⟩ := hB
    rw [ht] at hP1
    have hP : va_P D vwCl ([] ++ va_pl L M) H_9 := hP1
    have hD : va_D A ([] ++ va_pl L M) := hD1.mono hFc
    rw [hQ]
    exact W.iret (v := r_10) hx hb hr (fun t ht hW9 => ⟨⟨r_10, (), rfl, trivial, ⟨by rw [ht]; exact hP, hD⟩⟩, hS.F ht⟩) hS.2.2 dX2_termOn_23
