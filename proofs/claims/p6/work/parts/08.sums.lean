theorem dX1_isFull_0 : decode cX1_isFull 0 = .ok (.aload_n 0, 1) := by decide +kernel
theorem dX1_isFull_1 : decode cX1_isFull 1 = .ok (.getfield 28, 3) := by decide +kernel
theorem dX1_isFull_4 : decode cX1_isFull 4 = .ok (.aload_n 0, 1) := by decide +kernel
theorem dX1_isFull_5 : decode cX1_isFull 5 = .ok (.getfield 21, 3) := by decide +kernel
theorem dX1_isFull_8 : decode cX1_isFull 8 = .ok (.arraylength, 1) := by decide +kernel
theorem dX1_isFull_9 : decode cX1_isFull 9 = .ok (.if_icmp .lt 7, 3) := by decide +kernel
theorem dX1_isFull_12 : decode cX1_isFull 12 = .ok (.iconst 1, 1) := by decide +kernel
theorem dX1_isFull_13 : decode cX1_isFull 13 = .ok (.goto 4, 3) := by decide +kernel
theorem dX1_isFull_16 : decode cX1_isFull 16 = .ok (.iconst 0, 1) := by decide +kernel
theorem dX1_isFull_17 : decode cX1_isFull 17 = .ok (.ireturn, 1) := by decide +kernel
theorem dX1_append_0 : decode cX1_append 0 = .ok (.aload_n 0, 1) := by decide +kernel
theorem dX1_append_1 : decode cX1_append 1 = .ok (.invokevirtual 32, 3) := by decide +kernel
theorem dX1_append_4 : decode cX1_append 4 = .ok (.ifCond .ne 43, 3) := by decide +kernel
theorem dX1_append_7 : decode cX1_append 7 = .ok (.aload_n 0, 1) := by decide +kernel
theorem dX1_append_8 : decode cX1_append 8 = .ok (.getfield 15, 3) := by decide +kernel
theorem dX1_append_11 : decode cX1_append 11 = .ok (.aload_n 0, 1) := by decide +kernel
theorem dX1_append_12 : decode cX1_append 12 = .ok (.getfield 28, 3) := by decide +kernel
theorem dX1_append_15 : decode cX1_append 15 = .ok (.aload_n 1, 1) := by decide +kernel
theorem dX1_append_16 : decode cX1_append 16 = .ok (.aastore, 1) := by decide +kernel
theorem dX1_append_17 : decode cX1_append 17 = .ok (.aload_n 0, 1) := by decide +kernel
theorem dX1_append_18 : decode cX1_append 18 = .ok (.getfield 21, 3) := by decide +kernel
theorem dX1_append_21 : decode cX1_append 21 = .ok (.aload_n 0, 1) := by decide +kernel
theorem dX1_append_22 : decode cX1_append 22 = .ok (.getfield 28, 3) := by decide +kernel
theorem dX1_append_25 : decode cX1_append 25 = .ok (.iload_n 2, 1) := by decide +kernel
theorem dX1_append_26 : decode cX1_append 26 = .ok (.iastore, 1) := by decide +kernel
theorem dX1_append_27 : decode cX1_append 27 = .ok (.aload_n 0, 1) := by decide +kernel
theorem dX1_append_28 : decode cX1_append 28 = .ok (.getfield 25, 3) := by decide +kernel
theorem dX1_append_31 : decode cX1_append 31 = .ok (.aload_n 0, 1) := by decide +kernel
theorem dX1_append_32 : decode cX1_append 32 = .ok (.getfield 28, 3) := by decide +kernel
theorem dX1_append_35 : decode cX1_append 35 = .ok (.iload_n 3, 1) := by decide +kernel
theorem dX1_append_36 : decode cX1_append 36 = .ok (.iastore, 1) := by decide +kernel
theorem dX1_append_37 : decode cX1_append 37 = .ok (.aload_n 0, 1) := by decide +kernel
theorem dX1_append_38 : decode cX1_append 38 = .ok (.dup, 1) := by decide +kernel
theorem dX1_append_39 : decode cX1_append 39 = .ok (.getfield 28, 3) := by decide +kernel
theorem dX1_append_42 : decode cX1_append 42 = .ok (.iconst 1, 1) := by decide +kernel
theorem dX1_append_43 : decode cX1_append 43 = .ok (.iadd, 1) := by decide +kernel
theorem dX1_append_44 : decode cX1_append 44 = .ok (.putfield 28, 3) := by decide +kernel
theorem dX1_append_47 : decode cX1_append 47 = .ok (.return_, 1) := by decide +kernel
theorem dX1_dropLatest_0 : decode cX1_dropLatest 0 = .ok (.aload_n 0, 1) := by decide +kernel
theorem dX1_dropLatest_1 : decode cX1_dropLatest 1 = .ok (.getfield 28, 3) := by decide +kernel
theorem dX1_dropLatest_4 : decode cX1_dropLatest 4 = .ok (.ifCond .le 13, 3) := by decide +kernel
theorem dX1_dropLatest_7 : decode cX1_dropLatest 7 = .ok (.aload_n 0, 1) := by decide +kernel
theorem dX1_dropLatest_8 : decode cX1_dropLatest 8 = .ok (.dup, 1) := by decide +kernel
theorem dX1_dropLatest_9 : decode cX1_dropLatest 9 = .ok (.getfield 28, 3) := by decide +kernel
theorem dX1_dropLatest_12 : decode cX1_dropLatest 12 = .ok (.iconst 1, 1) := by decide +kernel
theorem dX1_dropLatest_13 : decode cX1_dropLatest 13 = .ok (.isub, 1) := by decide +kernel
theorem dX1_dropLatest_14 : decode cX1_dropLatest 14 = .ok (.putfield 28, 3) := by decide +kernel
theorem dX1_dropLatest_17 : decode cX1_dropLatest 17 = .ok (.return_, 1) := by decide +kernel
theorem dX1_bookUpTo_0 : decode cX1_bookUpTo 0 = .ok (.iconst 0, 1) := by decide +kernel
theorem dX1_bookUpTo_1 : decode cX1_bookUpTo 1 = .ok (.istore_n 2, 1) := by decide +kernel
theorem dX1_bookUpTo_2 : decode cX1_bookUpTo 2 = .ok (.iconst 0, 1) := by decide +kernel
theorem dX1_bookUpTo_3 : decode cX1_bookUpTo 3 = .ok (.istore_n 3, 1) := by decide +kernel
theorem dX1_bookUpTo_4 : decode cX1_bookUpTo 4 = .ok (.iload_n 3, 1) := by decide +kernel
theorem dX1_bookUpTo_5 : decode cX1_bookUpTo 5 = .ok (.aload_n 0, 1) := by decide +kernel
theorem dX1_bookUpTo_6 : decode cX1_bookUpTo 6 = .ok (.getfield 28, 3) := by decide +kernel
theorem dX1_bookUpTo_9 : decode cX1_bookUpTo 9 = .ok (.if_icmp .ge 87, 3) := by decide +kernel
theorem dX1_bookUpTo_12 : decode cX1_bookUpTo 12 = .ok (.aload_n 0, 1) := by decide +kernel
theorem dX1_bookUpTo_13 : decode cX1_bookUpTo 13 = .ok (.getfield 15, 3) := by decide +kernel
theorem dX1_bookUpTo_16 : decode cX1_bookUpTo 16 = .ok (.iload_n 3, 1) := by decide +kernel
theorem dX1_bookUpTo_17 : decode cX1_bookUpTo 17 = .ok (.aaload, 1) := by decide +kernel
theorem dX1_bookUpTo_18 : decode cX1_bookUpTo 18 = .ok (.astore 4, 2) := by decide +kernel
theorem dX1_bookUpTo_20 : decode cX1_bookUpTo 20 = .ok (.aload 4, 2) := by decide +kernel
theorem dX1_bookUpTo_22 : decode cX1_bookUpTo 22 = .ok (.ifnull 33, 3) := by decide +kernel
theorem dX1_bookUpTo_25 : decode cX1_bookUpTo 25 = .ok (.aload_n 0, 1) := by decide +kernel
theorem dX1_bookUpTo_26 : decode cX1_bookUpTo 26 = .ok (.getfield 21, 3) := by decide +kernel
theorem dX1_bookUpTo_29 : decode cX1_bookUpTo 29 = .ok (.iload_n 3, 1) := by decide +kernel
theorem dX1_bookUpTo_30 : decode cX1_bookUpTo 30 = .ok (.iaload, 1) := by decide +kernel
theorem dX1_bookUpTo_31 : decode cX1_bookUpTo 31 = .ok (.iload_n 1, 1) := by decide +kernel
theorem dX1_bookUpTo_32 : decode cX1_bookUpTo 32 = .ok (.if_icmp .gt 23, 3) := by decide +kernel
theorem dX1_bookUpTo_35 : decode cX1_bookUpTo 35 = .ok (.aload 4, 2) := by decide +kernel
theorem dX1_bookUpTo_37 : decode cX1_bookUpTo 37 = .ok (.dup, 1) := by decide +kernel
theorem dX1_bookUpTo_38 : decode cX1_bookUpTo 38 = .ok (.getfield 36, 3) := by decide +kernel
theorem dX1_bookUpTo_41 : decode cX1_bookUpTo 41 = .ok (.aload_n 0, 1) := by decide +kernel
theorem dX1_bookUpTo_42 : decode cX1_bookUpTo 42 = .ok (.getfield 25, 3) := by decide +kernel
theorem dX1_bookUpTo_45 : decode cX1_bookUpTo 45 = .ok (.iload_n 3, 1) := by decide +kernel
theorem dX1_bookUpTo_46 : decode cX1_bookUpTo 46 = .ok (.iaload, 1) := by decide +kernel
theorem dX1_bookUpTo_47 : decode cX1_bookUpTo 47 = .ok (.i2l, 1) := by decide +kernel
theorem dX1_bookUpTo_48 : decode cX1_bookUpTo 48 = .ok (.ladd, 1) := by decide +kernel
theorem dX1_bookUpTo_49 : decode cX1_bookUpTo 49 = .ok (.putfield 36, 3) := by decide +kernel
theorem dX1_bookUpTo_52 : decode cX1_bookUpTo 52 = .ok (.goto 38, 3) := by decide +kernel
theorem dX1_bookUpTo_55 : decode cX1_bookUpTo 55 = .ok (.aload_n 0, 1) := by decide +kernel
theorem dX1_bookUpTo_56 : decode cX1_bookUpTo 56 = .ok (.getfield 15, 3) := by decide +kernel
theorem dX1_bookUpTo_59 : decode cX1_bookUpTo 59 = .ok (.iload_n 2, 1) := by decide +kernel
theorem dX1_bookUpTo_60 : decode cX1_bookUpTo 60 = .ok (.aload 4, 2) := by decide +kernel
theorem dX1_bookUpTo_62 : decode cX1_bookUpTo 62 = .ok (.aastore, 1) := by decide +kernel
theorem dX1_bookUpTo_63 : decode cX1_bookUpTo 63 = .ok (.aload_n 0, 1) := by decide +kernel
theorem dX1_bookUpTo_64 : decode cX1_bookUpTo 64 = .ok (.getfield 21, 3) := by decide +kernel
theorem dX1_bookUpTo_67 : decode cX1_bookUpTo 67 = .ok (.iload_n 2, 1) := by decide +kernel
theorem dX1_bookUpTo_68 : decode cX1_bookUpTo 68 = .ok (.aload_n 0, 1) := by decide +kernel
theorem dX1_bookUpTo_69 : decode cX1_bookUpTo 69 = .ok (.getfield 21, 3) := by decide +kernel
theorem dX1_bookUpTo_72 : decode cX1_bookUpTo 72 = .ok (.iload_n 3, 1) := by decide +kernel
theorem dX1_bookUpTo_73 : decode cX1_bookUpTo 73 = .ok (.iaload, 1) := by decide +kernel
theorem dX1_bookUpTo_74 : decode cX1_bookUpTo 74 = .ok (.iastore, 1) := by decide +kernel
theorem dX1_bookUpTo_75 : decode cX1_bookUpTo 75 = .ok (.aload_n 0, 1) := by decide +kernel
theorem dX1_bookUpTo_76 : decode cX1_bookUpTo 76 = .ok (.getfield 25, 3) := by decide +kernel
theorem dX1_bookUpTo_79 : decode cX1_bookUpTo 79 = .ok (.iload_n 2, 1) := by decide +kernel
theorem dX1_bookUpTo_80 : decode cX1_bookUpTo 80 = .ok (.aload_n 0, 1) := by decide +kernel
theorem dX1_bookUpTo_81 : decode cX1_bookUpTo 81 = .ok (.getfield 25, 3) := by decide +kernel
theorem dX1_bookUpTo_84 : decode cX1_bookUpTo 84 = .ok (.iload_n 3, 1) := by decide +kernel
theorem dX1_bookUpTo_85 : decode cX1_bookUpTo 85 = .ok (.iaload, 1) := by decide +kernel
theorem dX1_bookUpTo_86 : decode cX1_bookUpTo 86 = .ok (.iastore, 1) := by decide +kernel
theorem dX1_bookUpTo_87 : decode cX1_bookUpTo 87 = .ok (.iinc 2 1, 3) := by decide +kernel
theorem dX1_bookUpTo_90 : decode cX1_bookUpTo 90 = .ok (.iinc 3 1, 3) := by decide +kernel
theorem dX1_bookUpTo_93 : decode cX1_bookUpTo 93 = .ok (.goto (-89), 3) := by decide +kernel
theorem dX1_bookUpTo_96 : decode cX1_bookUpTo 96 = .ok (.aload_n 0, 1) := by decide +kernel
theorem dX1_bookUpTo_97 : decode cX1_bookUpTo 97 = .ok (.iload_n 2, 1) := by decide +kernel
theorem dX1_bookUpTo_98 : decode cX1_bookUpTo 98 = .ok (.putfield 28, 3) := by decide +kernel
theorem dX1_bookUpTo_101 : decode cX1_bookUpTo 101 = .ok (.return_, 1) := by decide +kernel
theorem dX2_termOn_0 : decode cX2_termOn 0 = .ok (.aload_n 0, 1) := by decide +kernel
theorem dX2_termOn_1 : decode cX2_termOn 1 = .ok (.iload_n 1, 1) := by decide +kernel
theorem dX2_termOn_2 : decode cX2_termOn 2 = .ok (.invokevirtual 127, 3) := by decide +kernel
theorem dX2_termOn_5 : decode cX2_termOn 5 = .ok (.astore 4, 2) := by decide +kernel
theorem dX2_termOn_7 : decode cX2_termOn 7 = .ok (.aload 4, 2) := by decide +kernel
theorem dX2_termOn_9 : decode cX2_termOn 9 = .ok (.ifnonnull 7, 3) := by decide +kernel
theorem dX2_termOn_12 : decode cX2_termOn 12 = .ok (.iconst 0, 1) := by decide +kernel
theorem dX2_termOn_13 : decode cX2_termOn 13 = .ok (.goto 10, 3) := by decide +kernel
theorem dX2_termOn_16 : decode cX2_termOn 16 = .ok (.aload 4, 2) := by decide +kernel
theorem dX2_termOn_18 : decode cX2_termOn 18 = .ok (.iload_n 3, 1) := by decide +kernel
theorem dX2_termOn_19 : decode cX2_termOn 19 = .ok (.iload_n 2, 1) := by decide +kernel
theorem dX2_termOn_20 : decode cX2_termOn 20 = .ok (.invokevirtual 131, 3) := by decide +kernel
theorem dX2_termOn_23 : decode cX2_termOn 23 = .ok (.ireturn, 1) := by decide +kernel
theorem dX6_termOf_0 : decode cX6_termOf 0 = .ok (.iload_n 1, 1) := by decide +kernel
theorem dX6_termOf_1 : decode cX6_termOf 1 = .ok (.iload_n 2, 1) := by decide +kernel
theorem dX6_termOf_2 : decode cX6_termOf 2 = .ok (.invokestatic 28, 3) := by decide +kernel
theorem dX6_termOf_5 : decode cX6_termOf 5 = .ok (.ifCond .eq 17, 3) := by decide +kernel
theorem dX6_termOf_8 : decode cX6_termOf 8 = .ok (.aload_n 0, 1) := by decide +kernel
theorem dX6_termOf_9 : decode cX6_termOf 9 = .ok (.getfield 15, 3) := by decide +kernel
theorem dX6_termOf_12 : decode cX6_termOf 12 = .ok (.iload_n 2, 1) := by decide +kernel
theorem dX6_termOf_13 : decode cX6_termOf 13 = .ok (.bipush 6, 2) := by decide +kernel
theorem dX6_termOf_15 : decode cX6_termOf 15 = .ok (.imul, 1) := by decide +kernel
theorem dX6_termOf_16 : decode cX6_termOf 16 = .ok (.iload_n 1, 1) := by decide +kernel
theorem dX6_termOf_17 : decode cX6_termOf 17 = .ok (.iadd, 1) := by decide +kernel
theorem dX6_termOf_18 : decode cX6_termOf 18 = .ok (.iaload, 1) := by decide +kernel
theorem dX6_termOf_19 : decode cX6_termOf 19 = .ok (.goto 4, 3) := by decide +kernel
theorem dX6_termOf_22 : decode cX6_termOf 22 = .ok (.iconst 0, 1) := by decide +kernel
theorem dX6_termOf_23 : decode cX6_termOf 23 = .ok (.ireturn, 1) := by decide +kernel
theorem dX6_replace_0 : decode cX6_replace 0 = .ok (.aload_n 0, 1) := by decide +kernel
theorem dX6_replace_1 : decode cX6_replace 1 = .ok (.getfield 19, 3) := by decide +kernel
theorem dX6_replace_4 : decode cX6_replace 4 = .ok (.istore 4, 2) := by decide +kernel
theorem dX6_replace_6 : decode cX6_replace 6 = .ok (.iload_n 2, 1) := by decide +kernel
theorem dX6_replace_7 : decode cX6_replace 7 = .ok (.iconst 4, 1) := by decide +kernel
theorem dX6_replace_8 : decode cX6_replace 8 = .ok (.if_icmp .ne 11, 3) := by decide +kernel
theorem dX6_replace_11 : decode cX6_replace 11 = .ok (.aload_n 0, 1) := by decide +kernel
theorem dX6_replace_12 : decode cX6_replace 12 = .ok (.iload_n 3, 1) := by decide +kernel
theorem dX6_replace_13 : decode cX6_replace 13 = .ok (.putfield 19, 3) := by decide +kernel
theorem dX6_replace_16 : decode cX6_replace 16 = .ok (.goto 36, 3) := by decide +kernel
theorem dX6_replace_19 : decode cX6_replace 19 = .ok (.iload_n 1, 1) := by decide +kernel
theorem dX6_replace_20 : decode cX6_replace 20 = .ok (.iload_n 2, 1) := by decide +kernel
theorem dX6_replace_21 : decode cX6_replace 21 = .ok (.invokestatic 28, 3) := by decide +kernel
theorem dX6_replace_24 : decode cX6_replace 24 = .ok (.ifCond .eq 28, 3) := by decide +kernel
theorem dX6_replace_27 : decode cX6_replace 27 = .ok (.aload_n 0, 1) := by decide +kernel
theorem dX6_replace_28 : decode cX6_replace 28 = .ok (.getfield 15, 3) := by decide +kernel
theorem dX6_replace_31 : decode cX6_replace 31 = .ok (.iload_n 2, 1) := by decide +kernel
theorem dX6_replace_32 : decode cX6_replace 32 = .ok (.bipush 6, 2) := by decide +kernel
theorem dX6_replace_34 : decode cX6_replace 34 = .ok (.imul, 1) := by decide +kernel
theorem dX6_replace_35 : decode cX6_replace 35 = .ok (.iload_n 1, 1) := by decide +kernel
theorem dX6_replace_36 : decode cX6_replace 36 = .ok (.iadd, 1) := by decide +kernel
theorem dX6_replace_37 : decode cX6_replace 37 = .ok (.iaload, 1) := by decide +kernel
theorem dX6_replace_38 : decode cX6_replace 38 = .ok (.istore 4, 2) := by decide +kernel
theorem dX6_replace_40 : decode cX6_replace 40 = .ok (.aload_n 0, 1) := by decide +kernel
theorem dX6_replace_41 : decode cX6_replace 41 = .ok (.getfield 15, 3) := by decide +kernel
theorem dX6_replace_44 : decode cX6_replace 44 = .ok (.iload_n 2, 1) := by decide +kernel
theorem dX6_replace_45 : decode cX6_replace 45 = .ok (.bipush 6, 2) := by decide +kernel
theorem dX6_replace_47 : decode cX6_replace 47 = .ok (.imul, 1) := by decide +kernel
theorem dX6_replace_48 : decode cX6_replace 48 = .ok (.iload_n 1, 1) := by decide +kernel
theorem dX6_replace_49 : decode cX6_replace 49 = .ok (.iadd, 1) := by decide +kernel
theorem dX6_replace_50 : decode cX6_replace 50 = .ok (.iload_n 3, 1) := by decide +kernel
theorem dX6_replace_51 : decode cX6_replace 51 = .ok (.iastore, 1) := by decide +kernel
theorem dX6_replace_52 : decode cX6_replace 52 = .ok (.iload 4, 2) := by decide +kernel
theorem dX6_replace_54 : decode cX6_replace 54 = .ok (.ireturn, 1) := by decide +kernel
theorem dX9_payOut_0 : decode cX9_payOut 0 = .ok (.aload_n 0, 1) := by decide +kernel
theorem dX9_payOut_1 : decode cX9_payOut 1 = .ok (.getfield 53, 3) := by decide +kernel
theorem dX9_payOut_4 : decode cX9_payOut 4 = .ok (.ifnull 46, 3) := by decide +kernel
theorem dX9_payOut_7 : decode cX9_payOut 7 = .ok (.aload_n 0, 1) := by decide +kernel
theorem dX9_payOut_8 : decode cX9_payOut 8 = .ok (.getfield 53, 3) := by decide +kernel
theorem dX9_payOut_11 : decode cX9_payOut 11 = .ok (.dup, 1) := by decide +kernel
theorem dX9_payOut_12 : decode cX9_payOut 12 = .ok (.getfield 57, 3) := by decide +kernel
theorem dX9_payOut_15 : decode cX9_payOut 15 = .ok (.aload_n 0, 1) := by decide +kernel
theorem dX9_payOut_16 : decode cX9_payOut 16 = .ok (.getfield 57, 3) := by decide +kernel
theorem dX9_payOut_19 : decode cX9_payOut 19 = .ok (.ladd, 1) := by decide +kernel
theorem dX9_payOut_20 : decode cX9_payOut 20 = .ok (.putfield 57, 3) := by decide +kernel
theorem dX9_payOut_23 : decode cX9_payOut 23 = .ok (.aload_n 0, 1) := by decide +kernel
theorem dX9_payOut_24 : decode cX9_payOut 24 = .ok (.getfield 53, 3) := by decide +kernel
theorem dX9_payOut_27 : decode cX9_payOut 27 = .ok (.dup, 1) := by decide +kernel
theorem dX9_payOut_28 : decode cX9_payOut 28 = .ok (.getfield 60, 3) := by decide +kernel
theorem dX9_payOut_31 : decode cX9_payOut 31 = .ok (.aload_n 0, 1) := by decide +kernel
theorem dX9_payOut_32 : decode cX9_payOut 32 = .ok (.getfield 60, 3) := by decide +kernel
theorem dX9_payOut_35 : decode cX9_payOut 35 = .ok (.ladd, 1) := by decide +kernel
theorem dX9_payOut_36 : decode cX9_payOut 36 = .ok (.putfield 60, 3) := by decide +kernel
theorem dX9_payOut_39 : decode cX9_payOut 39 = .ok (.aload_n 0, 1) := by decide +kernel
theorem dX9_payOut_40 : decode cX9_payOut 40 = .ok (.lconst 0, 1) := by decide +kernel
theorem dX9_payOut_41 : decode cX9_payOut 41 = .ok (.putfield 57, 3) := by decide +kernel
theorem dX9_payOut_44 : decode cX9_payOut 44 = .ok (.aload_n 0, 1) := by decide +kernel
theorem dX9_payOut_45 : decode cX9_payOut 45 = .ok (.lconst 0, 1) := by decide +kernel
theorem dX9_payOut_46 : decode cX9_payOut 46 = .ok (.putfield 60, 3) := by decide +kernel
theorem dX9_payOut_49 : decode cX9_payOut 49 = .ok (.return_, 1) := by decide +kernel
theorem dX9_payOut_50 : decode cX9_payOut 50 = .ok (.aload_n 0, 1) := by decide +kernel
theorem dX9_payOut_51 : decode cX9_payOut 51 = .ok (.getfield 57, 3) := by decide +kernel
theorem dX9_payOut_54 : decode cX9_payOut 54 = .ok (.lconst 0, 1) := by decide +kernel
theorem dX9_payOut_55 : decode cX9_payOut 55 = .ok (.lcmp, 1) := by decide +kernel
theorem dX9_payOut_56 : decode cX9_payOut 56 = .ok (.ifCond .le 21, 3) := by decide +kernel
theorem dX9_payOut_59 : decode cX9_payOut 59 = .ok (.aload_n 0, 1) := by decide +kernel
theorem dX9_payOut_60 : decode cX9_payOut 60 = .ok (.dup, 1) := by decide +kernel
theorem dX9_payOut_61 : decode cX9_payOut 61 = .ok (.getfield 63, 3) := by decide +kernel
theorem dX9_payOut_64 : decode cX9_payOut 64 = .ok (.aload_n 0, 1) := by decide +kernel
theorem dX9_payOut_65 : decode cX9_payOut 65 = .ok (.getfield 57, 3) := by decide +kernel
theorem dX9_payOut_68 : decode cX9_payOut 68 = .ok (.ladd, 1) := by decide +kernel
theorem dX9_payOut_69 : decode cX9_payOut 69 = .ok (.putfield 63, 3) := by decide +kernel
theorem dX9_payOut_72 : decode cX9_payOut 72 = .ok (.aload_n 0, 1) := by decide +kernel
theorem dX9_payOut_73 : decode cX9_payOut 73 = .ok (.lconst 0, 1) := by decide +kernel
theorem dX9_payOut_74 : decode cX9_payOut 74 = .ok (.putfield 57, 3) := by decide +kernel
theorem dX9_payOut_77 : decode cX9_payOut 77 = .ok (.aload_n 0, 1) := by decide +kernel
theorem dX9_payOut_78 : decode cX9_payOut 78 = .ok (.dup, 1) := by decide +kernel
theorem dX9_payOut_79 : decode cX9_payOut 79 = .ok (.getfield 63, 3) := by decide +kernel
theorem dX9_payOut_82 : decode cX9_payOut 82 = .ok (.aload_n 0, 1) := by decide +kernel
theorem dX9_payOut_83 : decode cX9_payOut 83 = .ok (.getfield 60, 3) := by decide +kernel
theorem dX9_payOut_86 : decode cX9_payOut 86 = .ok (.ladd, 1) := by decide +kernel
theorem dX9_payOut_87 : decode cX9_payOut 87 = .ok (.putfield 63, 3) := by decide +kernel
theorem dX9_payOut_90 : decode cX9_payOut 90 = .ok (.aload_n 0, 1) := by decide +kernel
theorem dX9_payOut_91 : decode cX9_payOut 91 = .ok (.lconst 0, 1) := by decide +kernel
theorem dX9_payOut_92 : decode cX9_payOut 92 = .ok (.putfield 60, 3) := by decide +kernel
theorem dX9_payOut_95 : decode cX9_payOut 95 = .ok (.aload_n 0, 1) := by decide +kernel
theorem dX9_payOut_96 : decode cX9_payOut 96 = .ok (.getfield 47, 3) := by decide +kernel
theorem dX9_payOut_99 : decode cX9_payOut 99 = .ok (.ifCond .le 48, 3) := by decide +kernel
theorem dX9_payOut_102 : decode cX9_payOut 102 = .ok (.aload_n 0, 1) := by decide +kernel
theorem dX9_payOut_103 : decode cX9_payOut 103 = .ok (.getfield 63, 3) := by decide +kernel
theorem dX9_payOut_106 : decode cX9_payOut 106 = .ok (.aload_n 0, 1) := by decide +kernel
theorem dX9_payOut_107 : decode cX9_payOut 107 = .ok (.getfield 47, 3) := by decide +kernel
theorem dX9_payOut_110 : decode cX9_payOut 110 = .ok (.i2l, 1) := by decide +kernel
theorem dX9_payOut_111 : decode cX9_payOut 111 = .ok (.ldiv, 1) := by decide +kernel
theorem dX9_payOut_112 : decode cX9_payOut 112 = .ok (.lstore_n 1, 1) := by decide +kernel
theorem dX9_payOut_113 : decode cX9_payOut 113 = .ok (.aload_n 0, 1) := by decide +kernel
theorem dX9_payOut_114 : decode cX9_payOut 114 = .ok (.dup, 1) := by decide +kernel
theorem dX9_payOut_115 : decode cX9_payOut 115 = .ok (.getfield 63, 3) := by decide +kernel
theorem dX9_payOut_118 : decode cX9_payOut 118 = .ok (.lload_n 1, 1) := by decide +kernel
theorem dX9_payOut_119 : decode cX9_payOut 119 = .ok (.lsub, 1) := by decide +kernel
theorem dX9_payOut_120 : decode cX9_payOut 120 = .ok (.putfield 63, 3) := by decide +kernel
theorem dX9_payOut_123 : decode cX9_payOut 123 = .ok (.aload_n 0, 1) := by decide +kernel
theorem dX9_payOut_124 : decode cX9_payOut 124 = .ok (.dup, 1) := by decide +kernel
theorem dX9_payOut_125 : decode cX9_payOut 125 = .ok (.getfield 66, 3) := by decide +kernel
theorem dX9_payOut_128 : decode cX9_payOut 128 = .ok (.lload_n 1, 1) := by decide +kernel
theorem dX9_payOut_129 : decode cX9_payOut 129 = .ok (.ladd, 1) := by decide +kernel
theorem dX9_payOut_130 : decode cX9_payOut 130 = .ok (.putfield 66, 3) := by decide +kernel
theorem dX9_payOut_133 : decode cX9_payOut 133 = .ok (.aload_n 0, 1) := by decide +kernel
theorem dX9_payOut_134 : decode cX9_payOut 134 = .ok (.iconst 1, 1) := by decide +kernel
theorem dX9_payOut_135 : decode cX9_payOut 135 = .ok (.aload_n 0, 1) := by decide +kernel
theorem dX9_payOut_136 : decode cX9_payOut 136 = .ok (.getfield 47, 3) := by decide +kernel
theorem dX9_payOut_139 : decode cX9_payOut 139 = .ok (.iconst 1, 1) := by decide +kernel
theorem dX9_payOut_140 : decode cX9_payOut 140 = .ok (.isub, 1) := by decide +kernel
theorem dX9_payOut_141 : decode cX9_payOut 141 = .ok (.invokestatic 69, 3) := by decide +kernel
theorem dX9_payOut_144 : decode cX9_payOut 144 = .ok (.putfield 47, 3) := by decide +kernel
theorem dX9_payOut_147 : decode cX9_payOut 147 = .ok (.return_, 1) := by decide +kernel
theorem dX10_clear_0 : decode cX10_clear 0 = .ok (.aload_n 0, 1) := by decide +kernel
theorem dX10_clear_1 : decode cX10_clear 1 = .ok (.iconst 0, 1) := by decide +kernel
theorem dX10_clear_2 : decode cX10_clear 2 = .ok (.putfield 15, 3) := by decide +kernel
theorem dX10_clear_5 : decode cX10_clear 5 = .ok (.aload_n 0, 1) := by decide +kernel
theorem dX10_clear_6 : decode cX10_clear 6 = .ok (.iconst 0, 1) := by decide +kernel
theorem dX10_clear_7 : decode cX10_clear 7 = .ok (.putfield 19, 3) := by decide +kernel
theorem dX10_clear_10 : decode cX10_clear 10 = .ok (.return_, 1) := by decide +kernel
theorem dX10_noteEntry_0 : decode cX10_noteEntry 0 = .ok (.aload_n 0, 1) := by decide +kernel
theorem dX10_noteEntry_1 : decode cX10_noteEntry 1 = .ok (.getfield 9, 3) := by decide +kernel
theorem dX10_noteEntry_4 : decode cX10_noteEntry 4 = .ok (.aload_n 0, 1) := by decide +kernel
theorem dX10_noteEntry_5 : decode cX10_noteEntry 5 = .ok (.getfield 15, 3) := by decide +kernel
theorem dX10_noteEntry_8 : decode cX10_noteEntry 8 = .ok (.bipush 60, 2) := by decide +kernel
theorem dX10_noteEntry_10 : decode cX10_noteEntry 10 = .ok (.invokestatic 22, 3) := by decide +kernel
theorem dX10_noteEntry_13 : decode cX10_noteEntry 13 = .ok (.iload_n 1, 1) := by decide +kernel
theorem dX10_noteEntry_14 : decode cX10_noteEntry 14 = .ok (.iastore, 1) := by decide +kernel
theorem dX10_noteEntry_15 : decode cX10_noteEntry 15 = .ok (.aload_n 0, 1) := by decide +kernel
theorem dX10_noteEntry_16 : decode cX10_noteEntry 16 = .ok (.dup, 1) := by decide +kernel
theorem dX10_noteEntry_17 : decode cX10_noteEntry 17 = .ok (.getfield 15, 3) := by decide +kernel
theorem dX10_noteEntry_20 : decode cX10_noteEntry 20 = .ok (.iconst 1, 1) := by decide +kernel
theorem dX10_noteEntry_21 : decode cX10_noteEntry 21 = .ok (.iadd, 1) := by decide +kernel
theorem dX10_noteEntry_22 : decode cX10_noteEntry 22 = .ok (.putfield 15, 3) := by decide +kernel
theorem dX10_noteEntry_25 : decode cX10_noteEntry 25 = .ok (.aload_n 0, 1) := by decide +kernel
theorem dX10_noteEntry_26 : decode cX10_noteEntry 26 = .ok (.bipush 60, 2) := by decide +kernel
theorem dX10_noteEntry_28 : decode cX10_noteEntry 28 = .ok (.aload_n 0, 1) := by decide +kernel
theorem dX10_noteEntry_29 : decode cX10_noteEntry 29 = .ok (.getfield 19, 3) := by decide +kernel
theorem dX10_noteEntry_32 : decode cX10_noteEntry 32 = .ok (.iconst 1, 1) := by decide +kernel
theorem dX10_noteEntry_33 : decode cX10_noteEntry 33 = .ok (.iadd, 1) := by decide +kernel
theorem dX10_noteEntry_34 : decode cX10_noteEntry 34 = .ok (.invokestatic 28, 3) := by decide +kernel
theorem dX10_noteEntry_37 : decode cX10_noteEntry 37 = .ok (.putfield 19, 3) := by decide +kernel
theorem dX10_noteEntry_40 : decode cX10_noteEntry 40 = .ok (.return_, 1) := by decide +kernel
theorem dX10_noteMove_0 : decode cX10_noteMove 0 = .ok (.aload_n 0, 1) := by decide +kernel
theorem dX10_noteMove_1 : decode cX10_noteMove 1 = .ok (.iconst (-1), 1) := by decide +kernel
theorem dX10_noteMove_2 : decode cX10_noteMove 2 = .ok (.invokevirtual 31, 3) := by decide +kernel
theorem dX10_noteMove_5 : decode cX10_noteMove 5 = .ok (.return_, 1) := by decide +kernel
theorem dX10_takeLatest_0 : decode cX10_takeLatest 0 = .ok (.aload_n 0, 1) := by decide +kernel
theorem dX10_takeLatest_1 : decode cX10_takeLatest 1 = .ok (.dup, 1) := by decide +kernel
theorem dX10_takeLatest_2 : decode cX10_takeLatest 2 = .ok (.getfield 15, 3) := by decide +kernel
theorem dX10_takeLatest_5 : decode cX10_takeLatest 5 = .ok (.iconst 1, 1) := by decide +kernel
theorem dX10_takeLatest_6 : decode cX10_takeLatest 6 = .ok (.isub, 1) := by decide +kernel
theorem dX10_takeLatest_7 : decode cX10_takeLatest 7 = .ok (.putfield 15, 3) := by decide +kernel
theorem dX10_takeLatest_10 : decode cX10_takeLatest 10 = .ok (.aload_n 0, 1) := by decide +kernel
theorem dX10_takeLatest_11 : decode cX10_takeLatest 11 = .ok (.iconst 0, 1) := by decide +kernel
theorem dX10_takeLatest_12 : decode cX10_takeLatest 12 = .ok (.aload_n 0, 1) := by decide +kernel
theorem dX10_takeLatest_13 : decode cX10_takeLatest 13 = .ok (.getfield 19, 3) := by decide +kernel
theorem dX10_takeLatest_16 : decode cX10_takeLatest 16 = .ok (.iconst 1, 1) := by decide +kernel
theorem dX10_takeLatest_17 : decode cX10_takeLatest 17 = .ok (.isub, 1) := by decide +kernel
theorem dX10_takeLatest_18 : decode cX10_takeLatest 18 = .ok (.invokestatic 35, 3) := by decide +kernel
theorem dX10_takeLatest_21 : decode cX10_takeLatest 21 = .ok (.putfield 19, 3) := by decide +kernel
theorem dX10_takeLatest_24 : decode cX10_takeLatest 24 = .ok (.aload_n 0, 1) := by decide +kernel
theorem dX10_takeLatest_25 : decode cX10_takeLatest 25 = .ok (.getfield 9, 3) := by decide +kernel
theorem dX10_takeLatest_28 : decode cX10_takeLatest 28 = .ok (.aload_n 0, 1) := by decide +kernel
theorem dX10_takeLatest_29 : decode cX10_takeLatest 29 = .ok (.getfield 15, 3) := by decide +kernel
theorem dX10_takeLatest_32 : decode cX10_takeLatest 32 = .ok (.bipush 60, 2) := by decide +kernel
theorem dX10_takeLatest_34 : decode cX10_takeLatest 34 = .ok (.invokestatic 22, 3) := by decide +kernel
theorem dX10_takeLatest_37 : decode cX10_takeLatest 37 = .ok (.iaload, 1) := by decide +kernel
theorem dX10_takeLatest_38 : decode cX10_takeLatest 38 = .ok (.ireturn, 1) := by decide +kernel
theorem dJ9_floorMod_7cf53_0 : decode cJ9_floorMod_7cf53 0 = .ok (.iload_n 0, 1) := by decide +kernel
theorem dJ9_floorMod_7cf53_1 : decode cJ9_floorMod_7cf53 1 = .ok (.iload_n 1, 1) := by decide +kernel
theorem dJ9_floorMod_7cf53_2 : decode cJ9_floorMod_7cf53 2 = .ok (.irem, 1) := by decide +kernel
theorem dJ9_floorMod_7cf53_3 : decode cJ9_floorMod_7cf53 3 = .ok (.istore_n 2, 1) := by decide +kernel
theorem dJ9_floorMod_7cf53_4 : decode cJ9_floorMod_7cf53 4 = .ok (.iload_n 0, 1) := by decide +kernel
theorem dJ9_floorMod_7cf53_5 : decode cJ9_floorMod_7cf53 5 = .ok (.iload_n 1, 1) := by decide +kernel
theorem dJ9_floorMod_7cf53_6 : decode cJ9_floorMod_7cf53 6 = .ok (.ixor, 1) := by decide +kernel
theorem dJ9_floorMod_7cf53_7 : decode cJ9_floorMod_7cf53 7 = .ok (.ifCond .ge 11, 3) := by decide +kernel
theorem dJ9_floorMod_7cf53_10 : decode cJ9_floorMod_7cf53 10 = .ok (.iload_n 2, 1) := by decide +kernel
theorem dJ9_floorMod_7cf53_11 : decode cJ9_floorMod_7cf53 11 = .ok (.ifCond .eq 7, 3) := by decide +kernel
theorem dJ9_floorMod_7cf53_14 : decode cJ9_floorMod_7cf53 14 = .ok (.iload_n 2, 1) := by decide +kernel
theorem dJ9_floorMod_7cf53_15 : decode cJ9_floorMod_7cf53 15 = .ok (.iload_n 1, 1) := by decide +kernel
theorem dJ9_floorMod_7cf53_16 : decode cJ9_floorMod_7cf53 16 = .ok (.iadd, 1) := by decide +kernel
theorem dJ9_floorMod_7cf53_17 : decode cJ9_floorMod_7cf53 17 = .ok (.ireturn, 1) := by decide +kernel
theorem dJ9_floorMod_7cf53_18 : decode cJ9_floorMod_7cf53 18 = .ok (.iload_n 2, 1) := by decide +kernel
theorem dJ9_floorMod_7cf53_19 : decode cJ9_floorMod_7cf53 19 = .ok (.ireturn, 1) := by decide +kernel
theorem dJ7_fill_d0a16_0 : decode cJ7_fill_d0a16 0 = .ok (.iconst 0, 1) := by decide +kernel
theorem dJ7_fill_d0a16_1 : decode cJ7_fill_d0a16 1 = .ok (.istore_n 3, 1) := by decide +kernel
theorem dJ7_fill_d0a16_2 : decode cJ7_fill_d0a16 2 = .ok (.aload_n 0, 1) := by decide +kernel
theorem dJ7_fill_d0a16_3 : decode cJ7_fill_d0a16 3 = .ok (.arraylength, 1) := by decide +kernel
theorem dJ7_fill_d0a16_4 : decode cJ7_fill_d0a16 4 = .ok (.istore 4, 2) := by decide +kernel
theorem dJ7_fill_d0a16_6 : decode cJ7_fill_d0a16 6 = .ok (.iload_n 3, 1) := by decide +kernel
theorem dJ7_fill_d0a16_7 : decode cJ7_fill_d0a16 7 = .ok (.iload 4, 2) := by decide +kernel
theorem dJ7_fill_d0a16_9 : decode cJ7_fill_d0a16 9 = .ok (.if_icmp .ge 13, 3) := by decide +kernel
theorem dJ7_fill_d0a16_12 : decode cJ7_fill_d0a16 12 = .ok (.aload_n 0, 1) := by decide +kernel
theorem dJ7_fill_d0a16_13 : decode cJ7_fill_d0a16 13 = .ok (.iload_n 3, 1) := by decide +kernel
theorem dJ7_fill_d0a16_14 : decode cJ7_fill_d0a16 14 = .ok (.lload_n 1, 1) := by decide +kernel
theorem dJ7_fill_d0a16_15 : decode cJ7_fill_d0a16 15 = .ok (.lastore, 1) := by decide +kernel
theorem dJ7_fill_d0a16_16 : decode cJ7_fill_d0a16 16 = .ok (.iinc 3 1, 3) := by decide +kernel
theorem dJ7_fill_d0a16_19 : decode cJ7_fill_d0a16 19 = .ok (.goto (-13), 3) := by decide +kernel
theorem dJ7_fill_d0a16_22 : decode cJ7_fill_d0a16 22 = .ok (.return_, 1) := by decide +kernel
theorem dJ7_fill_53178_0 : decode cJ7_fill_53178 0 = .ok (.iconst 0, 1) := by decide +kernel
theorem dJ7_fill_53178_1 : decode cJ7_fill_53178 1 = .ok (.istore_n 2, 1) := by decide +kernel
theorem dJ7_fill_53178_2 : decode cJ7_fill_53178 2 = .ok (.aload_n 0, 1) := by decide +kernel
theorem dJ7_fill_53178_3 : decode cJ7_fill_53178 3 = .ok (.arraylength, 1) := by decide +kernel
theorem dJ7_fill_53178_4 : decode cJ7_fill_53178 4 = .ok (.istore_n 3, 1) := by decide +kernel
theorem dJ7_fill_53178_5 : decode cJ7_fill_53178 5 = .ok (.iload_n 2, 1) := by decide +kernel
theorem dJ7_fill_53178_6 : decode cJ7_fill_53178 6 = .ok (.iload_n 3, 1) := by decide +kernel
theorem dJ7_fill_53178_7 : decode cJ7_fill_53178 7 = .ok (.if_icmp .ge 13, 3) := by decide +kernel
theorem dJ7_fill_53178_10 : decode cJ7_fill_53178 10 = .ok (.aload_n 0, 1) := by decide +kernel
theorem dJ7_fill_53178_11 : decode cJ7_fill_53178 11 = .ok (.iload_n 2, 1) := by decide +kernel
theorem dJ7_fill_53178_12 : decode cJ7_fill_53178 12 = .ok (.iload_n 1, 1) := by decide +kernel
theorem dJ7_fill_53178_13 : decode cJ7_fill_53178 13 = .ok (.iastore, 1) := by decide +kernel
theorem dJ7_fill_53178_14 : decode cJ7_fill_53178 14 = .ok (.iinc 2 1, 3) := by decide +kernel
theorem dJ7_fill_53178_17 : decode cJ7_fill_53178 17 = .ok (.goto (-12), 3) := by decide +kernel
theorem dJ7_fill_53178_20 : decode cJ7_fill_53178 20 = .ok (.return_, 1) := by decide +kernel
theorem wd_104 : Cond.fieldLink RX10 15 RX10 "next" "I" ∈ lw_good := mem_t1 172 (by decide +kernel) rfl
theorem wd_105 : Cond.fieldLink RX10 19 RX10 "count" "I" ∈ lw_good := mem_t1 173 (by decide +kernel) rfl
theorem wd_106 : Cond.fieldLink RX10 9 RX10 "days" "[I" ∈ lw_good := mem_t1 171 (by decide +kernel) rfl
theorem wd_107 : Cond.methodLink RX10 22 yJ9_floorMod_7cf53 ∈ lw_good := mem_t3 143 (by decide +kernel) rfl
theorem wd_108 : Cond.static yJ9_floorMod_7cf53 ∈ lw_good := mem_t3 144 (by decide +kernel) rfl
theorem wd_109 : Cond.code yJ9_floorMod_7cf53 cJ9_floorMod_7cf53 3 (some .int) ∈ lw_good := mem_t3 145 (by decide +kernel) rfl
theorem wd_110 : Cond.methodLink RX10 28 Lib.Math.min.name ∈ lw_good := mem_t3 146 (by decide +kernel) rfl
theorem wd_111 : Cond.methodLink RX10 31 yX10_noteEntry ∈ lw_good := mem_t3 181 (by decide +kernel) rfl
theorem wd_112 : Cond.instanceMethod yX10_noteEntry ∈ lw_good := mem_t3 140 (by decide +kernel) rfl
theorem wd_113 : Cond.selects RX10 yX10_noteEntry yX10_noteEntry ∈ lw_good := mem_t3 141 (by decide +kernel) rfl
theorem wd_114 : Cond.initialized RX10 ∈ lw_good := mem_t1 9 (by decide +kernel) rfl
theorem wd_115 : Cond.code yX10_noteEntry cX10_noteEntry 2 none ∈ lw_good := mem_t3 142 rfl rfl
theorem wd_116 : Cond.methodLink RX10 35 Lib.Math.max.name ∈ lw_good := mem_t3 195 (by decide +kernel) rfl
theorem wd_117 : Cond.methodLink RX9 69 Lib.Math.max.name ∈ lw_good := mem_t4 203 (by decide +kernel) rfl
theorem wd_118 : Cond.fieldLink RX1 28 RX1 "count" "I" ∈ lw_good := mem_t1 152 (by decide +kernel) rfl
theorem wd_119 : Cond.fieldLink RX1 21 RX1 "days" "[I" ∈ lw_good := mem_t1 148 (by decide +kernel) rfl
theorem wd_120 : Cond.methodLink RX1 32 yX1_isFull ∈ lw_good := mem_t3 176 (by decide +kernel) rfl
theorem wd_121 : Cond.instanceMethod yX1_isFull ∈ lw_good := mem_t3 169 (by decide +kernel) rfl
theorem wd_122 : Cond.selects RX1 yX1_isFull yX1_isFull ∈ lw_good := mem_t3 170 (by decide +kernel) rfl
theorem wd_123 : Cond.initialized RX1 ∈ lw_good := mem_t1 7 (by decide +kernel) rfl
theorem wd_124 : Cond.code yX1_isFull cX1_isFull 1 (some .boolean) ∈ lw_good := mem_t3 171 rfl rfl
theorem wd_125 : Cond.fieldLink RX1 15 RX1 "tenures" "[LPartnersBook$Tenure;" ∈ lw_good := mem_t1 146 (by decide +kernel) rfl
theorem wd_126 : Cond.fieldLink RX1 25 RX1 "sums" "[I" ∈ lw_good := mem_t1 150 (by decide +kernel) rfl
theorem wd_127 : Cond.fieldLink RX1 36 RX9 "credit" "J" ∈ lw_good := mem_t2 210 (by decide +kernel) rfl
theorem wd_128 : Cond.methodLink RX6 28 yX6_isTerm ∈ lw_good := mem_t3 78 (by decide +kernel) rfl
theorem wd_129 : Cond.static yX6_isTerm ∈ lw_good := mem_t3 79 (by decide +kernel) rfl
theorem wd_130 : Cond.code yX6_isTerm cX6_isTerm 2 (some .boolean) ∈ lw_good := mem_t3 80 rfl rfl
theorem wd_131 : Cond.methodLink RX2 127 yX2_ruleOn ∈ lw_good := mem_t4 218 (by decide +kernel) rfl
theorem wd_132 : Cond.instanceMethod yX2_ruleOn ∈ lw_good := mem_t4 99 (by decide +kernel) rfl
theorem wd_133 : Cond.selects RX2 yX2_ruleOn yX2_ruleOn ∈ lw_good := mem_t4 100 (by decide +kernel) rfl
theorem wd_134 : Cond.code yX2_ruleOn cX2_ruleOn 5 (some (.object "PartnersBook$Rule")) ∈ lw_good := mem_t4 101 rfl rfl
theorem wd_135 : Cond.methodLink RX2 131 yX6_termOf ∈ lw_good := mem_t4 219 (by decide +kernel) rfl
theorem wd_136 : Cond.instanceMethod yX6_termOf ∈ lw_good := mem_t4 116 (by decide +kernel) rfl
theorem wd_137 : Cond.selects RX6 yX6_termOf yX6_termOf ∈ lw_good := mem_t4 117 (by decide +kernel) rfl
theorem wd_138 : Cond.code yX6_termOf cX6_termOf 3 (some .int) ∈ lw_good := mem_t4 118 rfl rfl
set_option maxHeartbeats 4000000 in
set_option maxRecDepth 100000 in
theorem s_J7_fill_d0a16_66 (l : Launch) (D : va_G) (cy : Nat → ClassId) (K : Kp) (L : List Nat) (M : Hp) (sz : Nat) (k1 : Nat) (nk : Nat) (k2 : Int64) (hW : WOK cy K L M) (ik1 : isk K L k1 66 nk) (hnk : nk ≤ 1000) : Met l yJ7_fill_d0a16 (wsM yJ7_fill_d0a16 cJ7_fill_d0a16 5 none) ({ frames := 0, cells := 0, slots := 0, locals := 0 }) (va_Pc [.ref k1, .long k2] (PG D cy [] L M sz)) (va_Qv (fun (M9 : Hp) => WOK cy K L M9 ∧ fr K L [66] M M9 ∧ (True)) (fun M9 t => PQ D [] L M9 (va_A ([] ++ va_pl L M) sz) t) (va_A ([] ++ va_pl L M) sz)) 0 0 (va_A ([] ++ va_pl L M) sz) := by
  refine Met.ofW (cc := cJ7_fill_d0a16) (maxL := 5) (ret := none) (by decide) rfl ?_
  intro p e s m args below meth c s₁ B hml hv
  obtain ⟨rfl, hsz, hP, hK, hD0, hN⟩ := hv
  have hx := B.exec
  have hb := B.bytes
  have hr := B.returns
  have hts := atoms_spec (ws := (wsM yJ7_fill_d0a16 cJ7_fill_d0a16 5 none)) B.pre
  have hg : ∀ w ∈ lw_good, w.before _ s = true := fun w h => hts w (List.mem_cons_of_mem _ h)
  have hown : s.vm.findClass RJ7 = some m.cls := findClass_of_methodNamed B.named
  have hlocks := B.notSynchronized
  subst hsz
  have hD := hD0.self (sz := s.heap.size)
  generalize hAe : va_A ([] ++ va_pl L M) s.heap.size = A at hD ⊢
  have hA : ∀ q : Nat, s.heap.size ≤ q → A q := fun q h => by rw [← hAe]; exact Or.inr h
  have hS : va_S A s.heap s.heap [] := va_S.rf
  have hl := lv_entry ([.ref k1, .long k2]) (n := 5) (Nat.le_of_ble_eq_true rfl)
  rw [lg_entry_eq]
  generalize (lg_sl ([.ref k1, .long k2]) ++ List.replicate (5 - (lg_sl ([.ref k1, .long k2])).length) Slot.unset).toArray = ls at hl ⊢
  refine W.nameQ (fun Q hQ => ?_)
  refine W.nameR (fun R hR => ?_)
  have hRf : 0 ≤ R.frames := by rw [hR]; exact Nat.le_of_ble_eq_true rfl
  have hRl : 0 ≤ R.locals := by rw [hR]; exact Nat.le_of_ble_eq_true rfl
  have hRc : 0 ≤ R.cells := by rw [hR]; exact Nat.le_of_ble_eq_true rfl
  have hRs : 0 ≤ R.slots := by rw [hR]; exact Nat.le_of_ble_eq_true rfl
  have hF : fr K L [66] M M := fr.rf
  have hl : lv_has ls 5 [(0, .ref k1), (1, .long k2)] := hl
  refine lv_iconst (v := 0) hx hb dJ7_fill_d0a16_0 (by decide) ?_
  refine lv_istore_n (lv' := [(3, .int 0), (0, .ref k1), (1, .long k2)]) hx hb dJ7_fill_d0a16_1 rfl hl (by decide) rfl (fun ls hl => ?_)
  refine lv_aload_n hx hb dJ7_fill_d0a16_2 rfl (lv_at hl 1 rfl) ?_
  obtain ⟨f1, hM1⟩ := hW.open_66 ik1
  refine pg_alen (v := (nI nk)) hx hb hK hP ik1.1 1 hM1 rfl (by rfl) dJ7_fill_d0a16_3 ?_
  refine lv_istore (lv' := [(4, .int (nI nk)), (3, .int 0), (0, .ref k1), (1, .long k2)]) hx hb dJ7_fill_d0a16_4 hl (by decide) rfl (fun ls hl => ?_)
  have key_2 : ∀ (fu_4 : Nat) (v3w5 : Nat) (M_7 : Hp) (H_8 : Heap) (locs : List Loc) (ls : Array Slot), nk - v3w5 < fu_4 → v3w5 ≤ nk → WOK cy K L M_7 → fr K L [66] M M_7 → va_P D vwCl ([] ++ va_pl L M_7) H_8 → va_D A ([] ++ va_pl L M_7) → va_S A s.heap H_8 locs → lv_has ls 5 [(4, .int (nI nk)), (3, .int (nI v3w5)), (0, .ref k1), (1, .long k2)] → W p l e R s m ([.ref k1, .long k2] : List Value).toArray below meth c H_8 locs 0 0 Q (F0 m 6 ls []) := by
    intro fu_4
    induction fu_4 with
    | zero => intro v3w5 M_7 H_8 locs ls h; exact absurd h (Nat.not_lt_zero _)
    | succ fu_4 ih_3 =>
      intro v3w5 M_7 H_8 locs ls hfu hx_6 hW hF hP hD hS hl
      refine lv_iload_n hx hb dJ7_fill_d0a16_6 rfl (lv_at hl 1 rfl) ?_
      refine lv_iload hx hb dJ7_fill_d0a16_7 (lv_at hl 0 rfl) ?_
      refine lv_icmp_ge (tgt := 22) hx hb dJ7_fill_d0a16_9 (by decide) (fun c_9 => ?_) (fun c_9 => ?_)
      · have hz := rfl (a := 0)
        have n_10 : nk ≤ v3w5 := (iLE (a := nk) (b := v3w5) (by omega) (by omega)).mp c_9
        rw [hQ]
        exact W.vret hx hb hr (fun t ht hW9 => ⟨⟨M_7, rfl, ⟨hW, hF, trivial⟩, ⟨by rw [ht]; exact hP, hD⟩⟩, hS.F ht⟩) hS.2.2 dJ7_fill_d0a16_22
      · have hz := rfl (a := 0)
        have n_11 : ¬ (nk ≤ v3w5) := fun q => c_9 ((iLE (a := nk) (b := v3w5) (by omega) (by omega)).mpr q)
        refine lv_aload_n hx hb dJ7_fill_d0a16_12 rfl (lv_at hl 2 rfl) ?_
        refine lv_iload_n hx hb dJ7_fill_d0a16_13 rfl (lv_at hl 1 rfl) ?_
        refine lv_lload_n hx hb dJ7_fill_d0a16_14 rfl (lv_at hl 3 rfl) ?_
        obtain ⟨f12, hM12⟩ := hW.open_66 ik1
        refine pg_last hx hb hK hP hD hS ik1.1 1 hM12 rfl (inbN v3w5 nk (by omega) (by omega)) dJ7_fill_d0a16_15 (fun H_13 locs hP hD hS => ?_)
        obtain ⟨M_14, eM_14⟩ : ∃ M1 : Hp, M1 = va_up M_7 k1 (.inl (cy 15, nk, .inr (.inl (vp_updL f12 ((nI v3w5) : Int32).toNatClampNeg k2)))) := ⟨_, rfl⟩
        have hP : va_P D vwCl ([] ++ va_pl L M_14) H_13 := by rw [eM_14]; exact hP
        have hD : va_D A ([] ++ va_pl L M_14) := by rw [eM_14]; exact hD
        have hW : WOK cy K L M_14 := by rw [eM_14]; exact hW.up_66 ik1 ⟨_, rfl⟩
        have hF : fr K L [66] M M_14 := by rw [eM_14]; exact hF.up ik1 (by decide)
        have hM_15 : M_14 k1 = .inl (cy 15, nk, .inr (.inl (vp_updL f12 ((nI v3w5) : Int32).toNatClampNeg k2))) := by rw [eM_14]; exact va_up_self _ _ _
        obtain ⟨f_16, ef_16⟩ : ∃ f : Nat → Int64, f = vp_updL f12 ((nI v3w5) : Int32).toNatClampNeg k2 := ⟨_, rfl⟩
        rw [← ef_16] at hM_15
        clear ef_16
        refine lv_iinc (v := (nI (v3w5 + 1))) (lv' := [(3, .int (nI (v3w5 + 1))), (4, .int (nI nk)), (0, .ref k1), (1, .long k2)]) hx hb dJ7_fill_d0a16_16 hl (k := 1) rfl (nI_1 v3w5) (by decide) rfl (fun ls hl => ?_)
        refine lv_goto (tgt := 6) hx hb dJ7_fill_d0a16_19 (by decide) ?_
        exact ih_3 (v3w5 + 1) M_14 H_13 _ _ (by omega) (by omega) hW hF hP hD hS (lv_sub hl [1, 0, 2, 3] rfl)
  exact key_2 (nk - 0 + 1) 0 M s.heap _ _ (by omega) (by omega) hW hF hP hD hS (lv_sub hl [0, 1, 2, 3] rfl)
set_option maxHeartbeats 4000000 in
set_option maxRecDepth 100000 in
theorem s_J7_fill_d0a16_69 (l : Launch) (D : va_G) (cy : Nat → ClassId) (K : Kp) (L : List Nat) (M : Hp) (sz : Nat) (k1 : Nat) (nk : Nat) (k2 : Int64) (hW : WOK cy K L M) (ik1 : isk K L k1 69 nk) (hnk : nk ≤ 1000) : Met l yJ7_fill_d0a16 (wsM yJ7_fill_d0a16 cJ7_fill_d0a16 5 none) ({ frames := 0, cells := 0, slots := 0, locals := 0 }) (va_Pc [.ref k1, .long k2] (PG D cy [] L M sz)) (va_Qv (fun (M9 : Hp) => WOK cy K L M9 ∧ fr K L [69] M M9 ∧ (True)) (fun M9 t => PQ D [] L M9 (va_A ([] ++ va_pl L M) sz) t) (va_A ([] ++ va_pl L M) sz)) 0 0 (va_A ([] ++ va_pl L M) sz) := by
  refine Met.ofW (cc := cJ7_fill_d0a16) (maxL := 5) (ret := none) (by decide) rfl ?_
  intro p e s m args below meth c s₁ B hml hv
  obtain ⟨rfl, hsz, hP, hK, hD0, hN⟩ := hv
  have hx := B.exec
  have hb := B.bytes
  have hr := B.returns
  have hts := atoms_spec (ws := (wsM yJ7_fill_d0a16 cJ7_fill_d0a16 5 none)) B.pre
  have hg : ∀ w ∈ lw_good, w.before _ s = true := fun w h => hts w (List.mem_cons_of_mem _ h)
  have hown : s.vm.findClass RJ7 = some m.cls := findClass_of_methodNamed B.named
  have hlocks := B.notSynchronized
  subst hsz
  have hD := hD0.self (sz := s.heap.size)
  generalize hAe : va_A ([] ++ va_pl L M) s.heap.size = A at hD ⊢
  have hA : ∀ q : Nat, s.heap.size ≤ q → A q := fun q h => by rw [← hAe]; exact Or.inr h
  have hS : va_S A s.heap s.heap [] := va_S.rf
  have hl := lv_entry ([.ref k1, .long k2]) (n := 5) (Nat.le_of_ble_eq_true rfl)
  rw [lg_entry_eq]
  generalize (lg_sl ([.ref k1, .long k2]) ++ List.replicate (5 - (lg_sl ([.ref k1, .long k2])).length) Slot.unset).toArray = ls at hl ⊢
  refine W.nameQ (fun Q hQ => ?_)
  refine W.nameR (fun R hR => ?_)
  have hRf : 0 ≤ R.frames := by rw [hR]; exact Nat.le_of_ble_eq_true rfl
  have hRl : 0 ≤ R.locals := by rw [hR]; exact Nat.le_of_ble_eq_true rfl
  have hRc : 0 ≤ R.cells := by rw [hR]; exact Nat.le_of_ble_eq_true rfl
  have hRs : 0 ≤ R.slots := by rw [hR]; exact Nat.le_of_ble_eq_true rfl
  have hF : fr K L [69] M M := fr.rf
  have hl : lv_has ls 5 [(0, .ref k1), (1, .long k2)] := hl
  refine lv_iconst (v := 0) hx hb dJ7_fill_d0a16_0 (by decide) ?_
  refine lv_istore_n (lv' := [(3, .int 0), (0, .ref k1), (1, .long k2)]) hx hb dJ7_fill_d0a16_1 rfl hl (by decide) rfl (fun ls hl => ?_)
  refine lv_aload_n hx hb dJ7_fill_d0a16_2 rfl (lv_at hl 1 rfl) ?_
  obtain ⟨f1, hM1⟩ := hW.open_69 ik1
  refine pg_alen (v := (nI nk)) hx hb hK hP ik1.1 1 hM1 rfl (by rfl) dJ7_fill_d0a16_3 ?_
  refine lv_istore (lv' := [(4, .int (nI nk)), (3, .int 0), (0, .ref k1), (1, .long k2)]) hx hb dJ7_fill_d0a16_4 hl (by decide) rfl (fun ls hl => ?_)
  have key_2 : ∀ (fu_4 : Nat) (v3w5 : Nat) (M_7 : Hp) (H_8 : Heap) (locs : List Loc) (ls : Array Slot), nk - v3w5 < fu_4 → v3w5 ≤ nk → WOK cy K L M_7 → fr K L [69] M M_7 → va_P D vwCl ([] ++ va_pl L M_7) H_8 → va_D A ([] ++ va_pl L M_7) → va_S A s.heap H_8 locs → lv_has ls 5 [(4, .int (nI nk)), (3, .int (nI v3w5)), (0, .ref k1), (1, .long k2)] → W p l e R s m ([.ref k1, .long k2] : List Value).toArray below meth c H_8 locs 0 0 Q (F0 m 6 ls []) := by
    intro fu_4
    induction fu_4 with
    | zero => intro v3w5 M_7 H_8 locs ls h; exact absurd h (Nat.not_lt_zero _)
    | succ fu_4 ih_3 =>
      intro v3w5 M_7 H_8 locs ls hfu hx_6 hW hF hP hD hS hl
      refine lv_iload_n hx hb dJ7_fill_d0a16_6 rfl (lv_at hl 1 rfl) ?_
      refine lv_iload hx hb dJ7_fill_d0a16_7 (lv_at hl 0 rfl) ?_
      refine lv_icmp_ge (tgt := 22) hx hb dJ7_fill_d0a16_9 (by decide) (fun c_9 => ?_) (fun c_9 => ?_)
      · have hz := rfl (a := 0)
        have n_10 : nk ≤ v3w5 := (iLE (a := nk) (b := v3w5) (by omega) (by omega)).mp c_9
        rw [hQ]
        exact W.vret hx hb hr (fun t ht hW9 => ⟨⟨M_7, rfl, ⟨hW, hF, trivial⟩, ⟨by rw [ht]; exact hP, hD⟩⟩, hS.F ht⟩) hS.2.2 dJ7_fill_d0a16_22
      · have hz := rfl (a := 0)
        have n_11 : ¬ (nk ≤ v3w5) := fun q => c_9 ((iLE (a := nk) (b := v3w5) (by omega) (by omega)).mpr q)
        refine lv_aload_n hx hb dJ7_fill_d0a16_12 rfl (lv_at hl 2 rfl) ?_
        refine lv_iload_n hx hb dJ7_fill_d0a16_13 rfl (lv_at hl 1 rfl) ?_
        refine lv_lload_n hx hb dJ7_fill_d0a16_14 rfl (lv_at hl 3 rfl) ?_
        obtain ⟨f12, hM12⟩ := hW.open_69 ik1
        refine pg_last hx hb hK hP hD hS ik1.1 1 hM12 rfl (inbN v3w5 nk (by omega) (by omega)) dJ7_fill_d0a16_15 (fun H_13 locs hP hD hS => ?_)
        obtain ⟨M_14, eM_14⟩ : ∃ M1 : Hp, M1 = va_up M_7 k1 (.inl (cy 15, nk, .inr (.inl (vp_updL f12 ((nI v3w5) : Int32).toNatClampNeg k2)))) := ⟨_, rfl⟩
        have hP : va_P D vwCl ([] ++ va_pl L M_14) H_13 := by rw [eM_14]; exact hP
        have hD : va_D A ([] ++ va_pl L M_14) := by rw [eM_14]; exact hD
        have hW : WOK cy K L M_14 := by rw [eM_14]; exact hW.up_69 ik1 ⟨_, rfl⟩
        have hF : fr K L [69] M M_14 := by rw [eM_14]; exact hF.up ik1 (by decide)
        have hM_15 : M_14 k1 = .inl (cy 15, nk, .inr (.inl (vp_updL f12 ((nI v3w5) : Int32).toNatClampNeg k2))) := by rw [eM_14]; exact va_up_self _ _ _
        obtain ⟨f_16, ef_16⟩ : ∃ f : Nat → Int64, f = vp_updL f12 ((nI v3w5) : Int32).toNatClampNeg k2 := ⟨_, rfl⟩
        rw [← ef_16] at hM_15
        clear ef_16
        refine lv_iinc (v := (nI (v3w5 + 1))) (lv' := [(3, .int (nI (v3w5 + 1))), (4, .int (nI nk)), (0, .ref k1), (1, .long k2)]) hx hb dJ7_fill_d0a16_16 hl (k := 1) rfl (nI_1 v3w5) (by decide) rfl (fun ls hl => ?_)
        refine lv_goto (tgt := 6) hx hb dJ7_fill_d0a16_19 (by decide) ?_
        exact ih_3 (v3w5 + 1) M_14 H_13 _ _ (by omega) (by omega) hW hF hP hD hS (lv_sub hl [1, 0, 2, 3] rfl)
  exact key_2 (nk - 0 + 1) 0 M s.heap _ _ (by omega) (by omega) hW hF hP hD hS (lv_sub hl [0, 1, 2, 3] rfl)
set_option maxHeartbeats 4000000 in
set_option maxRecDepth 100000 in
theorem s_J7_fill_d0a16_72 (l : Launch) (D : va_G) (cy : Nat → ClassId) (K : Kp) (L : List Nat) (M : Hp) (sz : Nat) (k1 : Nat) (nk : Nat) (k2 : Int64) (hW : WOK cy K L M) (ik1 : isk K L k1 72 nk) (hnk : nk ≤ 1000) : Met l yJ7_fill_d0a16 (wsM yJ7_fill_d0a16 cJ7_fill_d0a16 5 none) ({ frames := 0, cells := 0, slots := 0, locals := 0 }) (va_Pc [.ref k1, .long k2] (PG D cy [] L M sz)) (va_Qv (fun (M9 : Hp) => WOK cy K L M9 ∧ fr K L [72] M M9 ∧ (True)) (fun M9 t => PQ D [] L M9 (va_A ([] ++ va_pl L M) sz) t) (va_A ([] ++ va_pl L M) sz)) 0 0 (va_A ([] ++ va_pl L M) sz) := by
  refine Met.ofW (cc := cJ7_fill_d0a16) (maxL := 5) (ret := none) (by decide) rfl ?_
  intro p e s m args below meth c s₁ B hml hv
  obtain ⟨rfl, hsz, hP, hK, hD0, hN⟩ := hv
  have hx := B.exec
  have hb := B.bytes
  have hr := B.returns
  have hts := atoms_spec (ws := (wsM yJ7_fill_d0a16 cJ7_fill_d0a16 5 none)) B.pre
  have hg : ∀ w ∈ lw_good, w.before _ s = true := fun w h => hts w (List.mem_cons_of_mem _ h)
  have hown : s.vm.findClass RJ7 = some m.cls := findClass_of_methodNamed B.named
  have hlocks := B.notSynchronized
  subst hsz
  have hD := hD0.self (sz := s.heap.size)
  generalize hAe : va_A ([] ++ va_pl L M) s.heap.size = A at hD ⊢
  have hA : ∀ q : Nat, s.heap.size ≤ q → A q := fun q h => by rw [← hAe]; exact Or.inr h
  have hS : va_S A s.heap s.heap [] := va_S.rf
  have hl := lv_entry ([.ref k1, .long k2]) (n := 5) (Nat.le_of_ble_eq_true rfl)
  rw [lg_entry_eq]
  generalize (lg_sl ([.ref k1, .long k2]) ++ List.replicate (5 - (lg_sl ([.ref k1, .long k2])).length) Slot.unset).toArray = ls at hl ⊢
  refine W.nameQ (fun Q hQ => ?_)
  refine W.nameR (fun R hR => ?_)
  have hRf : 0 ≤ R.frames := by rw [hR]; exact Nat.le_of_ble_eq_true rfl
  have hRl : 0 ≤ R.locals := by rw [hR]; exact Nat.le_of_ble_eq_true rfl
  have hRc : 0 ≤ R.cells := by rw [hR]; exact Nat.le_of_ble_eq_true rfl
  have hRs : 0 ≤ R.slots := by rw [hR]; exact Nat.le_of_ble_eq_true rfl
  have hF : fr K L [72] M M := fr.rf
  have hl : lv_has ls 5 [(0, .ref k1), (1, .long k2)] := hl
  refine lv_iconst (v := 0) hx hb dJ7_fill_d0a16_0 (by decide) ?_
  refine lv_istore_n (lv' := [(3, .int 0), (0, .ref k1), (1, .long k2)]) hx hb dJ7_fill_d0a16_1 rfl hl (by decide) rfl (fun ls hl => ?_)
  refine lv_aload_n hx hb dJ7_fill_d0a16_2 rfl (lv_at hl 1 rfl) ?_
  obtain ⟨f1, hM1⟩ := hW.open_72 ik1
  refine pg_alen (v := (nI nk)) hx hb hK hP ik1.1 1 hM1 rfl (by rfl) dJ7_fill_d0a16_3 ?_
  refine lv_istore (lv' := [(4, .int (nI nk)), (3, .int 0), (0, .ref k1), (1, .long k2)]) hx hb dJ7_fill_d0a16_4 hl (by decide) rfl (fun ls hl => ?_)
  have key_2 : ∀ (fu_4 : Nat) (v3w5 : Nat) (M_7 : Hp) (H_8 : Heap) (locs : List Loc) (ls : Array Slot), nk - v3w5 < fu_4 → v3w5 ≤ nk → WOK cy K L M_7 → fr K L [72] M M_7 → va_P D vwCl ([] ++ va_pl L M_7) H_8 → va_D A ([] ++ va_pl L M_7) → va_S A s.heap H_8 locs → lv_has ls 5 [(4, .int (nI nk)), (3, .int (nI v3w5)), (0, .ref k1), (1, .long k2)] → W p l e R s m ([.ref k1, .long k2] : List Value).toArray below meth c H_8 locs 0 0 Q (F0 m 6 ls []) := by
    intro fu_4
    induction fu_4 with
    | zero => intro v3w5 M_7 H_8 locs ls h; exact absurd h (Nat.not_lt_zero _)
    | succ fu_4 ih_3 =>
      intro v3w5 M_7 H_8 locs ls hfu hx_6 hW hF hP hD hS hl
      refine lv_iload_n hx hb dJ7_fill_d0a16_6 rfl (lv_at hl 1 rfl) ?_
      refine lv_iload hx hb dJ7_fill_d0a16_7 (lv_at hl 0 rfl) ?_
      refine lv_icmp_ge (tgt := 22) hx hb dJ7_fill_d0a16_9 (by decide) (fun c_9 => ?_) (fun c_9 => ?_)
      · have hz := rfl (a := 0)
        have n_10 : nk ≤ v3w5 := (iLE (a := nk) (b := v3w5) (by omega) (by omega)).mp c_9
        rw [hQ]
        exact W.vret hx hb hr (fun t ht hW9 => ⟨⟨M_7, rfl, ⟨hW, hF, trivial⟩, ⟨by rw [ht]; exact hP, hD⟩⟩, hS.F ht⟩) hS.2.2 dJ7_fill_d0a16_22
      · have hz := rfl (a := 0)
        have n_11 : ¬ (nk ≤ v3w5) := fun q => c_9 ((iLE (a := nk) (b := v3w5) (by omega) (by omega)).mpr q)
        refine lv_aload_n hx hb dJ7_fill_d0a16_12 rfl (lv_at hl 2 rfl) ?_
        refine lv_iload_n hx hb dJ7_fill_d0a16_13 rfl (lv_at hl 1 rfl) ?_
        refine lv_lload_n hx hb dJ7_fill_d0a16_14 rfl (lv_at hl 3 rfl) ?_
        obtain ⟨f12, hM12⟩ := hW.open_72 ik1
        refine pg_last hx hb hK hP hD hS ik1.1 1 hM12 rfl (inbN v3w5 nk (by omega) (by omega)) dJ7_fill_d0a16_15 (fun H_13 locs hP hD hS => ?_)
        obtain ⟨M_14, eM_14⟩ : ∃ M1 : Hp, M1 = va_up M_7 k1 (.inl (cy 15, nk, .inr (.inl (vp_updL f12 ((nI v3w5) : Int32).toNatClampNeg k2)))) := ⟨_, rfl⟩
        have hP : va_P D vwCl ([] ++ va_pl L M_14) H_13 := by rw [eM_14]; exact hP
        have hD : va_D A ([] ++ va_pl L M_14) := by rw [eM_14]; exact hD
        have hW : WOK cy K L M_14 := by rw [eM_14]; exact hW.up_72 ik1 ⟨_, rfl⟩
        have hF : fr K L [72] M M_14 := by rw [eM_14]; exact hF.up ik1 (by decide)
        have hM_15 : M_14 k1 = .inl (cy 15, nk, .inr (.inl (vp_updL f12 ((nI v3w5) : Int32).toNatClampNeg k2))) := by rw [eM_14]; exact va_up_self _ _ _
        obtain ⟨f_16, ef_16⟩ : ∃ f : Nat → Int64, f = vp_updL f12 ((nI v3w5) : Int32).toNatClampNeg k2 := ⟨_, rfl⟩
        rw [← ef_16] at hM_15
        clear ef_16
        refine lv_iinc (v := (nI (v3w5 + 1))) (lv' := [(3, .int (nI (v3w5 + 1))), (4, .int (nI nk)), (0, .ref k1), (1, .long k2)]) hx hb dJ7_fill_d0a16_16 hl (k := 1) rfl (nI_1 v3w5) (by decide) rfl (fun ls hl => ?_)
        refine lv_goto (tgt := 6) hx hb dJ7_fill_d0a16_19 (by decide) ?_
        exact ih_3 (v3w5 + 1) M_14 H_13 _ _ (by omega) (by omega) hW hF hP hD hS (lv_sub hl [1, 0, 2, 3] rfl)
  exact key_2 (nk - 0 + 1) 0 M s.heap _ _ (by omega) (by omega) hW hF hP hD hS (lv_sub hl [0, 1, 2, 3] rfl)
set_option maxHeartbeats 4000000 in
set_option maxRecDepth 100000 in
theorem s_J7_fill_53178_60 (l : Launch) (D : va_G) (cy : Nat → ClassId) (K : Kp) (L : List Nat) (M : Hp) (sz : Nat) (k1 : Nat) (nk : Nat) (k2 : Int32) (hW : WOK cy K L M) (ik1 : isk K L k1 60 nk) (hnk : nk ≤ 1000) : Met l yJ7_fill_53178 (wsM yJ7_fill_53178 cJ7_fill_53178 4 none) ({ frames := 0, cells := 0, slots := 0, locals := 0 }) (va_Pc [.ref k1, .int k2] (PG D cy [] L M sz)) (va_Qv (fun (M9 : Hp) => WOK cy K L M9 ∧ fr K L [60] M M9 ∧ (True)) (fun M9 t => PQ D [] L M9 (va_A ([] ++ va_pl L M) sz) t) (va_A ([] ++ va_pl L M) sz)) 0 0 (va_A ([] ++ va_pl L M) sz) := by
  refine Met.ofW (cc := cJ7_fill_53178) (maxL := 4) (ret := none) (by decide) rfl ?_
  intro p e s m args below meth c s₁ B hml hv
  obtain ⟨rfl, hsz, hP, hK, hD0, hN⟩ := hv
  have hx := B.exec
  have hb := B.bytes
  have hr := B.returns
  have hts := atoms_spec (ws := (wsM yJ7_fill_53178 cJ7_fill_53178 4 none)) B.pre
  have hg : ∀ w ∈ lw_good, w.before _ s = true := fun w h => hts w (List.mem_cons_of_mem _ h)
  have hown : s.vm.findClass RJ7 = some m.cls := findClass_of_methodNamed B.named
  have hlocks := B.notSynchronized
  subst hsz
  have hD := hD0.self (sz := s.heap.size)
  generalize hAe : va_A ([] ++ va_pl L M) s.heap.size = A at hD ⊢
  have hA : ∀ q : Nat, s.heap.size ≤ q → A q := fun q h => by rw [← hAe]; exact Or.inr h
  have hS : va_S A s.heap s.heap [] := va_S.rf
  have hl := lv_entry ([.ref k1, .int k2]) (n := 4) (Nat.le_of_ble_eq_true rfl)
  rw [lg_entry_eq]
  generalize (lg_sl ([.ref k1, .int k2]) ++ List.replicate (4 - (lg_sl ([.ref k1, .int k2])).length) Slot.unset).toArray = ls at hl ⊢
  refine W.nameQ (fun Q hQ => ?_)
  refine W.nameR (fun R hR => ?_)
  have hRf : 0 ≤ R.frames := by rw [hR]; exact Nat.le_of_ble_eq_true rfl
  have hRl : 0 ≤ R.locals := by rw [hR]; exact Nat.le_of_ble_eq_true rfl
  have hRc : 0 ≤ R.cells := by rw [hR]; exact Nat.le_of_ble_eq_true rfl
  have hRs : 0 ≤ R.slots := by rw [hR]; exact Nat.le_of_ble_eq_true rfl
  have hF : fr K L [60] M M := fr.rf
  have hl : lv_has ls 4 [(0, .ref k1), (1, .int k2)] := hl
  refine lv_iconst (v := 0) hx hb dJ7_fill_53178_0 (by decide) ?_
  refine lv_istore_n (lv' := [(2, .int 0), (0, .ref k1), (1, .int k2)]) hx hb dJ7_fill_53178_1 rfl hl (by decide) rfl (fun ls hl => ?_)
  refine lv_aload_n hx hb dJ7_fill_53178_2 rfl (lv_at hl 1 rfl) ?_
  obtain ⟨f1, hM1⟩ := hW.open_60 ik1
  refine pg_alen (v := (nI nk)) hx hb hK hP ik1.1 0 hM1 rfl (by rfl) dJ7_fill_53178_3 ?_
  refine lv_istore_n (lv' := [(3, .int (nI nk)), (2, .int 0), (0, .ref k1), (1, .int k2)]) hx hb dJ7_fill_53178_4 rfl hl (by decide) rfl (fun ls hl => ?_)
  have key_2 : ∀ (fu_4 : Nat) (v2w5 : Nat) (M_7 : Hp) (H_8 : Heap) (locs : List Loc) (ls : Array Slot), nk - v2w5 < fu_4 → v2w5 ≤ nk → WOK cy K L M_7 → fr K L [60] M M_7 → va_P D vwCl ([] ++ va_pl L M_7) H_8 → va_D A ([] ++ va_pl L M_7) → va_S A s.heap H_8 locs → lv_has ls 4 [(3, .int (nI nk)), (2, .int (nI v2w5)), (0, .ref k1), (1, .int k2)] → W p l e R s m ([.ref k1, .int k2] : List Value).toArray below meth c H_8 locs 0 0 Q (F0 m 5 ls []) := by
    intro fu_4
    induction fu_4 with
    | zero => intro v2w5 M_7 H_8 locs ls h; exact absurd h (Nat.not_lt_zero _)
    | succ fu_4 ih_3 =>
      intro v2w5 M_7 H_8 locs ls hfu hx_6 hW hF hP hD hS hl
      refine lv_iload_n hx hb dJ7_fill_53178_5 rfl (lv_at hl 1 rfl) ?_
      refine lv_iload_n hx hb dJ7_fill_53178_6 rfl (lv_at hl 0 rfl) ?_
      refine lv_icmp_ge (tgt := 20) hx hb dJ7_fill_53178_7 (by decide) (fun c_9 => ?_) (fun c_9 => ?_)
      · have hz := rfl (a := 0)
        have n_10 : nk ≤ v2w5 := (iLE (a := nk) (b := v2w5) (by omega) (by omega)).mp c_9
        rw [hQ]
        exact W.vret hx hb hr (fun t ht hW9 => ⟨⟨M_7, rfl, ⟨hW, hF, trivial⟩, ⟨by rw [ht]; exact hP, hD⟩⟩, hS.F ht⟩) hS.2.2 dJ7_fill_53178_20
      · have hz := rfl (a := 0)
        have n_11 : ¬ (nk ≤ v2w5) := fun q => c_9 ((iLE (a := nk) (b := v2w5) (by omega) (by omega)).mpr q)
        refine lv_aload_n hx hb dJ7_fill_53178_10 rfl (lv_at hl 2 rfl) ?_
        refine lv_iload_n hx hb dJ7_fill_53178_11 rfl (lv_at hl 1 rfl) ?_
        refine lv_iload_n hx hb dJ7_fill_53178_12 rfl (lv_at hl 3 rfl) ?_
        obtain ⟨f12, hM12⟩ := hW.open_60 ik1
        refine pg_iast hx hb hK hP hD hS ik1.1 0 hM12 rfl (inbN v2w5 nk (by omega) (by omega)) dJ7_fill_53178_13 (fun H_13 locs hP hD hS => ?_)
        obtain ⟨M_14, eM_14⟩ : ∃ M1 : Hp, M1 = va_up M_7 k1 (.inl (cy 14, nk, .inl (upd f12 ((nI v2w5) : Int32).toNatClampNeg k2))) := ⟨_, rfl⟩
        have hP : va_P D vwCl ([] ++ va_pl L M_14) H_13 := by rw [eM_14]; exact hP
        have hD : va_D A ([] ++ va_pl L M_14) := by rw [eM_14]; exact hD
        have hW : WOK cy K L M_14 := by rw [eM_14]; exact hW.up_60 ik1 ⟨_, rfl⟩
        have hF : fr K L [60] M M_14 := by rw [eM_14]; exact hF.up ik1 (by decide)
        have hM_15 : M_14 k1 = .inl (cy 14, nk, .inl (upd f12 ((nI v2w5) : Int32).toNatClampNeg k2)) := by rw [eM_14]; exact va_up_self _ _ _
        obtain ⟨f_16, ef_16⟩ : ∃ f : Nat → Int32, f = upd f12 ((nI v2w5) : Int32).toNatClampNeg k2 := ⟨_, rfl⟩
        rw [← ef_16] at hM_15
        clear ef_16
        refine lv_iinc (v := (nI (v2w5 + 1))) (lv' := [(2, .int (nI (v2w5 + 1))), (3, .int (nI nk)), (0, .ref k1), (1, .int k2)]) hx hb dJ7_fill_53178_14 hl (k := 1) rfl (nI_1 v2w5) (by decide) rfl (fun ls hl => ?_)
        refine lv_goto (tgt := 5) hx hb dJ7_fill_53178_17 (by decide) ?_
        exact ih_3 (v2w5 + 1) M_14 H_13 _ _ (by omega) (by omega) hW hF hP hD hS (lv_sub hl [1, 0, 2, 3] rfl)
  exact key_2 (nk - 0 + 1) 0 M s.heap _ _ (by omega) (by omega) hW hF hP hD hS (lv_sub hl [0, 1, 2, 3] rfl)
set_option maxHeartbeats 4000000 in
set_option maxRecDepth 100000 in
theorem s_X6_termOf (l : Launch) (D : va_G) (cy : Nat → ClassId) (K : Kp) (L : List Nat) (M : Hp) (sz : Nat) (oa : Nat) (k1 : Int32) (k2 : Int32) (hW : WOK cy K L M) (ia : isk K L oa 6 0) : Met l yX6_termOf (wsM yX6_termOf cX6_termOf 3 (some .int)) ({ frames := 1, cells := 0, slots := 0, locals := 21 }) (va_Pc [.ref oa, .int k1, .int k2] (PG D cy [] L M sz)) (va_Qi (fun (r : Int32) (_ : Unit) => True) (fun _ t => PQ D [] L M (va_A ([] ++ va_pl L M) sz) t) (va_A ([] ++ va_pl L M) sz)) 0 0 (va_A ([] ++ va_pl L M) sz) := by
  refine Met.ofW (cc := cX6_termOf) (maxL := 3) (ret := (some .int)) (by decide) rfl ?_
  intro p e s m args below meth c s₁ B hml hv
  obtain ⟨rfl, hsz, hP, hK, hD0, hN⟩ := hv
  have hx := B.exec
  have hb := B.bytes
  have hr := B.returns
  have hts := atoms_spec (ws := (wsM yX6_termOf cX6_termOf 3 (some .int))) B.pre
  have hg : ∀ w ∈ lw_good, w.before _ s = true := fun w h => hts w (List.mem_cons_of_mem _ h)
  have hown : s.vm.findClass RX6 = some m.cls := findClass_of_methodNamed B.named
  have hlocks := B.notSynchronized
  subst hsz
  have hD := hD0.self (sz := s.heap.size)
  generalize hAe : va_A ([] ++ va_pl L M) s.heap.size = A at hD ⊢
  have hA : ∀ q : Nat, s.heap.size ≤ q → A q := fun q h => by rw [← hAe]; exact Or.inr h
  have hS : va_S A s.heap s.heap [] := va_S.rf
  have hl := lv_entry ([.ref oa, .int k1, .int k2]) (n := 3) (Nat.le_of_ble_eq_true rfl)
  rw [lg_entry_eq]
  generalize (lg_sl ([.ref oa, .int k1, .int k2]) ++ List.replicate (3 - (lg_sl ([.ref oa, .int k1, .int k2])).length) Slot.unset).toArray = ls at hl ⊢
  refine W.nameQ (fun Q hQ => ?_)
  refine W.nameR (fun R hR => ?_)
  have hRf : 1 ≤ R.frames := by rw [hR]; exact Nat.le_of_ble_eq_true rfl
  have hRl : 21 ≤ R.locals := by rw [hR]; exact Nat.le_of_ble_eq_true rfl
  have hRc : 0 ≤ R.cells := by rw [hR]; exact Nat.le_of_ble_eq_true rfl
  have hRs : 0 ≤ R.slots := by rw [hR]; exact Nat.le_of_ble_eq_true rfl
  have hl : lv_has ls 3 [(0, .ref oa), (1, .int k1), (2, .int k2)] := hl
  refine lv_iload_n hx hb dX6_termOf_0 rfl (lv_at hl 1 rfl) ?_
  refine lv_iload_n hx hb dX6_termOf_1 rfl (lv_at hl 2 rfl) ?_
  have hPc : va_P D vwCl ([] ++ va_pl L M) s.heap := hP
  have hDc : va_D A ([] ++ va_pl L M) := hD
  have hFc : ∀ q, va_A ([] ++ va_pl L M) s.heap.size q → A q := pg_free hDc hS hA
  refine va_calli (va_runS (As := [.int k1, .int k2]) (rest := []) ⟨hx, hb, hml, hown, hg⟩ (s_X6_isTerm l D cy K L M s.heap.size k1 k2  hW ) (va_cwS 2 hg (gS wd_128 wd_129 wd_97 wd_130) rfl rfl rfl (by decide +kernel) ⟨(Nat.le_trans (Nat.le_of_ble_eq_true rfl) hRf), (Nat.le_trans (Nat.le_of_ble_eq_true rfl) hRl)⟩) ⟨PG.blind, fun U hU hW => ⟨rfl, PG.at hPc hK hDc hN hU hW⟩⟩ rfl rfl hl.1 rfl (lv_room (Nat.le_of_ble_eq_true rfl)) dX6_termOf_2 ⟨(Nat.le_trans (Nat.le_of_ble_eq_true rfl) hRc), (Nat.le_trans (Nat.le_of_ble_eq_true rfl) hRs)⟩) hS (fun q _ h => hFc q h) hFc (fun r_2 M_3 t H_1 locs ht hvm hw hB hz1 hk1 hS => ?_)
  have hp_4 := hw
  obtain ⟨hP1, hD1⟩ := hB
  rw [ht] at hP1
  have hP : va_P D vwCl ([] ++ va_pl L M) H_1 := hP1
  have hD : va_D A ([] ++ va_pl L M) := hD1.mono hFc
  rcases hp_4 with ⟨rfl, c_5, c_6, c_7, c_8⟩ | rfl
  · have hz := rfl (a := 0)
    refine lv_if_eq (tgt := 22) hx hb dX6_termOf_5 (by decide) (fun c_9 => absurd c_9 (by decide)) (fun _ => ?_)
    refine lv_aload_n hx hb dX6_termOf_8 rfl (lv_at hl 0 rfl) ?_
    obtain ⟨v10_0, v10_1, v10_2, hM10, h10_2⟩ := hW.open_6 ia
    refine pg_get (D := D) (ci := 6) (v := .ref v10_2) (C := RX6) (T := TX6) (N := 3) hx hb hg inG6 hown hK hP ia.1 hM10 rfl 2 (by decide) (hg _ wd_93) (fun _ h9 => h9) rfl dX6_termOf_9 ?_
    refine lv_iload_n hx hb dX6_termOf_12 rfl (lv_at hl 2 rfl) ?_
    refine lv_bipush (v := 6) hx hb dX6_termOf_13 (by decide) ?_
    obtain ⟨j_11, hj_12, rfl⟩ := i32nat 4 (by decide) c_7 c_8
    refine lv_imul hx hb dX6_termOf_15 ?_
    refine lv_topi (fun f_13 ef_13 => ?_)
    obtain rfl : f_13 = (nI (j_11 * 6)) := ef_13.trans (nI_mul j_11 6)
    refine lv_iload_n hx hb dX6_termOf_16 rfl (lv_at hl 1 rfl) ?_
    obtain ⟨j_14, hj_15, rfl⟩ := i32nat 6 (by decide) c_5 c_6
    refine lv_iadd hx hb dX6_termOf_17 ?_
    refine lv_topi (fun f_16 ef_16 => ?_)
    obtain rfl : f_16 = (nI ((j_11 * 6) + j_14)) := ef_16.trans (nI_add (j_11 * 6) j_14)
    obtain ⟨f17, hM17⟩ := hW.open_54 h10_2
    refine pg_iald hx hb hK hP h10_2.1 0 hM17 rfl (inbN ((j_11 * 6) + j_14) 24 (by omega) (by omega)) dX6_termOf_18 ?_
    refine lv_topi (fun f_18 ef_18 => ?_)
    refine lv_goto (tgt := 23) hx hb dX6_termOf_19 (by decide) ?_
    rw [hQ]
    exact W.iret (v := f_18) hx hb hr (fun t ht hW9 => ⟨⟨f_18, (), rfl, trivial, ⟨by rw [ht]; exact hP, hD⟩⟩, hS.F ht⟩) hS.2.2 dX6_termOf_23
  · have hz := rfl (a := 0)
    refine lv_if_eq (tgt := 22) hx hb dX6_termOf_5 (by decide) (fun _ => ?_) (fun c_19 => absurd c_19 (by decide))
    refine lv_iconst (v := 0) hx hb dX6_termOf_22 (by decide) ?_
    rw [hQ]
    exact W.iret (v := 0) hx hb hr (fun t ht hW9 => ⟨⟨0, (), rfl, trivial, ⟨by rw [ht]; exact hP, hD⟩⟩, hS.F ht⟩) hS.2.2 dX6_termOf_23
